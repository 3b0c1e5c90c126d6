/-! THE MARKET as numbers -/
abbrev Mk : Type := Nat → Nat → Nat
def sm (f : Nat → Nat) : Nat → Nat
  | 0 => 0
  | n + 1 => sm f n + f n
theorem sm_s (f : Nat → Nat) (n : Nat) : sm f (n + 1) = sm f n + f n := rfl
theorem sm_cong {f g : Nat → Nat} : ∀ {n : Nat}, (∀ c, c < n → f c = g c) → sm f n = sm g n := by
  intro n
  induction n with
  | zero => intro _; rfl
  | succ n ih => intro h; rw [sm_s, sm_s, ih (fun c hc => h c (by omega)), h n (by omega)]
theorem sm_le {f : Nat → Nat} {b : Nat} : ∀ {n : Nat}, (∀ c, c < n → f c ≤ b) → sm f n ≤ n * b := by
  intro n
  induction n with
  | zero => intro _; exact Nat.zero_le _
  | succ n ih =>
    intro h
    have h1 := ih (fun c hc => h c (by omega))
    have h2 := h n (by omega)
    rw [sm_s, Nat.succ_mul]
    omega
theorem sm_add (f g : Nat → Nat) : ∀ (n : Nat), sm (fun c => f c + g c) n = sm f n + sm g n := by
  intro n
  induction n with
  | zero => rfl
  | succ n ih => rw [sm_s, sm_s, sm_s, ih]; omega
def sea (M : Mk) : Nat := M 13 2 % 12
def plainS (s : Nat) : Nat := if 2 ≤ s ∧ s ≤ 4 then 3 else 1
def shr (kd s : Nat) : Nat := if kd = 1 ∨ kd = 5 then plainS s / 3 else if kd = 2 then 2 * plainS s else if kd = 4 then 2 * plainS s + 1 else plainS s
def yld (kd soil : Nat) : Nat := if kd = 3 then soil + 5 + 3 else if kd = 1 ∨ kd = 5 then soil + 5 - 4 else if kd = 4 then 0 else soil + 5
abbrev blue (kd : Nat) : Prop := kd = 1 ∨ kd = 5
abbrev isU (own kd : Nat) : Prop := own = kd ∨ kd = 0 ∨ (own = 4 ∧ kd = 2) ∨ (own = 5 ∧ kd = 1)
def wrt (M : Mk) (c : Nat) : Nat := if M 3 c = 0 then M 2 c * M 5 (sea M) / 10 else 0
abbrev snd (M : Mk) (o c : Nat) : Prop := M 3 c = 0 ∧ M 1 c = o
def purse (M : Mk) (o : Nat) : Nat := sm (fun c => if snd M o c then wrt M c else 0) (M 13 0)
def many (M : Mk) (s : Nat) : Nat := sm (fun c => if M 3 c = s then 1 else 0) (M 13 0)
def sizes (M : Mk) : Nat := sm (fun c => M 2 c) (M 13 0)
/-! sets by bits -/
def bit (s c : Nat) : Nat := s / 2 ^ c % 2
def setS (p : Nat → Bool) (n : Nat) : Nat := sm (fun c => if p c then 2 ^ c else 0) n
theorem setS_lt (p : Nat → Bool) : ∀ (n : Nat), setS p n < 2 ^ n := by
  intro n
  induction n with
  | zero => exact Nat.lt_of_lt_of_le (by decide : 0 < 1) (Nat.le_refl _)
  | succ n ih =>
    unfold setS at ih ⊢
    rw [sm_s, Nat.pow_succ]
    split <;> omega
theorem bit_add {a c k : Nat} (h : a < 2 ^ k) (b : Nat) : bit (a + b * 2 ^ k) c = if c < k then bit a c else bit b (c - k) := by
  unfold bit
  split
  next hc =>
    have e : 2 ^ k = 2 ^ c * 2 ^ (k - c) := by rw [← Nat.pow_add]; congr 1; omega
    rw [e, ← Nat.mul_assoc, Nat.mul_comm b, Nat.mul_assoc, Nat.add_mul_div_left _ _ (Nat.two_pow_pos c)]
    have e2 : b * 2 ^ (k - c) = 2 * (b * 2 ^ (k - c - 1)) := by
      have : 2 ^ (k - c) = 2 * 2 ^ (k - c - 1) := by rw [← Nat.pow_succ']; congr 1; omega
      rw [this, Nat.mul_left_comm]
    rw [e2]
    omega
  next hc =>
    have e : 2 ^ c = 2 ^ k * 2 ^ (c - k) := by rw [← Nat.pow_add]; congr 1; omega
    rw [e, ← Nat.div_div_eq_div_mul, Nat.add_mul_div_right _ _ (Nat.two_pow_pos k), Nat.div_eq_of_lt h, Nat.zero_add]
theorem bit_big {s c : Nat} (h : s < 2 ^ c) : bit s c = 0 := by unfold bit; rw [Nat.div_eq_of_lt h]
theorem bit_01 (s c : Nat) : bit s c = 0 ∨ bit s c = 1 := by unfold bit; omega
theorem setS_s (p : Nat → Bool) (n : Nat) : setS p (n + 1) = setS p n + (if p n then 1 else 0) * 2 ^ n := by
  unfold setS
  rw [sm_s]
  split <;> simp
theorem bit_setS (p : Nat → Bool) : ∀ (n c : Nat), bit (setS p n) c = if c < n ∧ p c = true then 1 else 0 := by
  intro n
  induction n with
  | zero => intro c; simp [setS, sm, bit]
  | succ n ih =>
    intro c
    rw [setS_s, bit_add (setS_lt p n)]
    by_cases hc : c < n
    · rw [if_pos hc, ih]
      have : c < n + 1 := by omega
      simp [hc, this]
    · rw [if_neg hc]
      by_cases he : c = n
      · subst he
        by_cases hp : p c = true <;> simp [hp, bit]
      · have h1 : ¬ c < n + 1 := by omega
        have h2 : ∃ j, c - n = j + 1 := ⟨c - n - 1, by omega⟩
        obtain ⟨j, hj⟩ := h2
        rw [hj]
        have : ∀ b : Nat, b < 2 → bit b (j + 1) = 0 := fun b hb => bit_big (by rw [Nat.pow_succ]; have := Nat.two_pow_pos j; omega)
        rw [this _ (by split <;> decide)]
        simp [h1]
theorem setS_cong {p q : Nat → Bool} {n : Nat} (h : ∀ c, c < n → p c = q c) : setS p n = setS q n := sm_cong (fun c hc => by rw [h c hc])
def sets (M : Mk) (o : Nat) : Nat := setS (fun c => decide (snd M o c)) (M 13 0)
def wset (M : Mk) (s : Nat) : Nat := sm (fun c => if bit s c = 1 then wrt M c else 0) (M 13 0)
theorem wset_purse (M : Mk) (o : Nat) : wset M (sets M o) = purse M o := by
  unfold wset purse sets
  refine sm_cong (fun c hc => ?_)
  rw [bit_setS]
  by_cases h : snd M o c <;> simp [h, hc]
/-! the machine's bits -/
theorem sh_31 : ∀ n, n < 32 → ((nI n &&& 31).toBitVec.smod 32).toNat = n := by decide +kernel
theorem nI_31 : (nI 31 : Int32) = 31 := rfl
theorem m_bit {s c : Nat} (hs : s < 2 ^ 31) (hc : c < 32) : (nI s >>> (nI c &&& 31)) &&& nI 1 = nI (bit s c) := by
  rw [pk_shrN hs _ c (sh_31 c hc), pk_andN (Nat.lt_of_le_of_lt (Nat.div_le_self _ _) (by omega)) 1 (by decide)]
  rfl
theorem m_shl {c : Nat} (hc : c < 31) : nI 1 <<< (nI c &&& 31) = nI (2 ^ c) := by
  rw [pk_shlN _ c (sh_31 c (by omega)) (by rw [Nat.one_mul]; exact Nat.pow_lt_pow_right (by decide) (by omega)), Nat.one_mul]
theorem nI_or (a b : Nat) : nI a ||| nI b = nI (a ||| b) := by
  apply Int32.toBitVec_inj.mp
  simp [nI, BitVec.ofNat_or]
theorem nI_and (a b : Nat) : nI a &&& nI b = nI (a &&& b) := by
  apply Int32.toBitVec_inj.mp
  simp [nI, BitVec.ofNat_and]
theorem or_pow {a c : Nat} (h : a < 2 ^ c) : a ||| 2 ^ c = a + 2 ^ c := by
  have := Nat.two_pow_add_eq_or_of_lt h 1
  rw [Nat.mul_one] at this
  rw [Nat.or_comm, ← this, Nat.add_comm]
theorem m_or {a c : Nat} (hc : c < 31) (h : a < 2 ^ c) : nI a ||| (nI 1 <<< (nI c &&& 31)) = nI (a + 2 ^ c) := by
  rw [m_shl hc, nI_or, or_pow h]
/-! what holds of every market -/
def WF (M : Mk) : Prop := M 13 0 ≤ 12 ∧ M 13 1 ≤ 8 ∧ M 13 2 ≤ 10000 ∧ (∀ c, M 0 c ≤ 5 ∧ M 1 c ≤ 3 ∧ M 2 c ≤ 99 ∧ M 3 c ≤ 2) ∧ (∀ o, M 4 o ≤ 9) ∧ (∀ t, M 5 t ≤ 99) ∧ ∀ i, M 6 i ≤ 3 ∧ M 7 i ≤ 3 ∧ M 8 i ≤ 9999 ∧ M 9 i ≤ 20000 ∧ M 10 i ≤ 1
theorem WF.co {M : Mk} (h : WF M) : M 13 0 ≤ 12 := h.1
theorem WF.lo {M : Mk} (h : WF M) : M 13 1 ≤ 8 := h.2.1
theorem WF.mo {M : Mk} (h : WF M) : M 13 2 ≤ 10000 := h.2.2.1
theorem WF.kd {M : Mk} (h : WF M) (c : Nat) : M 0 c ≤ 5 := (h.2.2.2.1 c).1
theorem WF.ow {M : Mk} (h : WF M) (c : Nat) : M 1 c ≤ 3 := (h.2.2.2.1 c).2.1
theorem WF.sz {M : Mk} (h : WF M) (c : Nat) : M 2 c ≤ 99 := (h.2.2.2.1 c).2.2.1
theorem WF.st {M : Mk} (h : WF M) (c : Nat) : M 3 c ≤ 2 := (h.2.2.2.1 c).2.2.2
theorem WF.so {M : Mk} (h : WF M) (o : Nat) : M 4 o ≤ 9 := h.2.2.2.2.1 o
theorem WF.pr {M : Mk} (h : WF M) (t : Nat) : M 5 t ≤ 99 := h.2.2.2.2.2.1 t
theorem WF.ln {M : Mk} (h : WF M) (i : Nat) : M 6 i ≤ 3 ∧ M 7 i ≤ 3 ∧ M 8 i ≤ 9999 ∧ M 9 i ≤ 20000 ∧ M 10 i ≤ 1 := h.2.2.2.2.2.2 i
theorem sea_lt (M : Mk) : sea M < 12 := Nat.mod_lt _ (by decide)
theorem sea_ml (M : Mk) : sea M < mlen 5 := sea_lt M
theorem wrt_le {M : Mk} (h : WF M) (c : Nat) : wrt M c ≤ 980 := by
  unfold wrt
  split
  · have h1 := h.sz c
    have h2 := h.pr (sea M)
    have : M 2 c * M 5 (sea M) ≤ 99 * 99 := Nat.mul_le_mul h1 h2
    omega
  · omega
theorem purse_le {M : Mk} (h : WF M) (o : Nat) : purse M o ≤ 12 * 980 := by
  have h1 : purse M o ≤ M 13 0 * 980 := sm_le (fun c _ => by split; exact wrt_le h c; omega)
  exact Nat.le_trans h1 (Nat.mul_le_mul_right 980 h.co)
theorem wset_le {M : Mk} (h : WF M) (s : Nat) : wset M s ≤ 12 * 980 := by
  have h1 : wset M s ≤ M 13 0 * 980 := sm_le (fun c _ => by split; exact wrt_le h c; omega)
  exact Nat.le_trans h1 (Nat.mul_le_mul_right 980 h.co)
