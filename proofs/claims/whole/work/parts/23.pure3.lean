/-! a payment's set -/
def vl (M : Mk) (o c : Nat) : Nat := if snd M o c then wrt M c else 0
def wv (f : Nat → Nat) (n x : Nat) : Nat := sm (fun c => if bit x c = 1 then f c else 0) n
theorem wv_0 (f : Nat → Nat) (x : Nat) : wv f 0 x = 0 := rfl
theorem wv_s (f : Nat → Nat) (n x : Nat) : wv f (n + 1) x = wv f n x + if bit x n = 1 then f n else 0 := rfl
theorem bit_lo {x n c : Nat} (b : Nat) (hx : x < 2 ^ n) (hc : c < n) : bit (x + b * 2 ^ n) c = bit x c := by rw [bit_add hx, if_pos hc]
theorem wv_lo {f : Nat → Nat} {n x : Nat} (b : Nat) (hx : x < 2 ^ n) : wv f n (x + b * 2 ^ n) = wv f n x := sm_cong (fun c hc => by rw [bit_lo b hx hc])
theorem wv_hi {f : Nat → Nat} {n x : Nat} (hx : x < 2 ^ n) : wv f (n + 1) (x + 2 ^ n) = wv f n x + f n := by
  have e : x + 2 ^ n = x + 1 * 2 ^ n := by rw [Nat.one_mul]
  have e2 : bit (x + 1 * 2 ^ n) n = 1 := by rw [bit_add hx, if_neg (Nat.lt_irrefl n), Nat.sub_self]; rfl
  rw [wv_s, e, e2, wv_lo 1 hx, if_pos rfl]
theorem wv_no {f : Nat → Nat} {n x : Nat} (hx : x < 2 ^ n) : wv f (n + 1) x = wv f n x := by
  rw [wv_s, bit_big hx]
  simp
theorem split2 {n y : Nat} (hy : y < 2 ^ (n + 1)) : y < 2 ^ n ∨ ∃ x, x < 2 ^ n ∧ y = x + 2 ^ n := by
  rw [Nat.pow_succ] at hy
  rcases Nat.lt_or_ge y (2 ^ n) with h | h
  · exact Or.inl h
  · exact Or.inr ⟨y - 2 ^ n, by omega, by omega⟩
theorem wv_le {f : Nat → Nat} {b n x : Nat} (h : ∀ c, c < n → f c ≤ b) : wv f n x ≤ n * b := sm_le (fun c hc => by split; exact h c hc; omega)
theorem wv_all (f : Nat → Nat) (n : Nat) : wv f n (2 ^ n - 1) = sm f n := by
  refine sm_cong (fun c hc => ?_)
  have : bit (2 ^ n - 1) c = 1 := by
    rw [bit_tb, Nat.testBit_two_pow_sub_one]
    simp [hc]
  rw [if_pos this]
theorem wv_mono (f : Nat → Nat) (n x : Nat) : wv f n x ≤ sm f n := by
  unfold wv
  induction n with
  | zero => exact Nat.le_refl _
  | succ n ih => rw [sm_s, sm_s]; split <;> omega
/-- s is the least set of those that are worth v or more by least -/
def IsB (f : Nat → Nat) (n v s : Nat) : Prop := s < 2 ^ n ∧ v ≤ wv f n s ∧ ∀ y, y < 2 ^ n → v ≤ wv f n y → wv f n s * 4096 + s ≤ wv f n y * 4096 + y
theorem IsB.one {f : Nat → Nat} {n v s t : Nat} (hn : n ≤ 12) (h1 : IsB f n v s) (h2 : IsB f n v t) : s = t := by
  have h3 := h1.2.2 t h2.1 h2.2.1
  have h4 := h2.2.2 s h1.1 h1.2.1
  have hp : 2 ^ n ≤ 2 ^ 12 := Nat.pow_le_pow_right (by decide) hn
  have h5 := h1.1
  have h6 := h2.1
  omega
noncomputable def chs (M : Mk) (o v : Nat) : Nat := if purse M o < v then sets M o else @dite _ (∃ s, IsB (vl M o) (M 13 0) v s) (Classical.propDecidable _) (fun h => Classical.choose h) (fun _ => 0)
theorem chs_lo {M : Mk} {o v : Nat} (h : purse M o < v) : chs M o v = sets M o := if_pos h
theorem chs_hi {M : Mk} {o v s : Nat} (hw : WF M) (h : ¬ purse M o < v) (hs : IsB (vl M o) (M 13 0) v s) : chs M o v = s := by
  unfold chs
  rw [if_neg h, dif_pos ⟨s, hs⟩]
  exact IsB.one hw.co (Classical.choose_spec (⟨s, hs⟩ : ∃ s, IsB (vl M o) (M 13 0) v s)) hs
theorem purse_vl (M : Mk) (o : Nat) : purse M o = sm (vl M o) (M 13 0) := rfl
/-- the least set has owned, sound coins of some worth alone -/
theorem bit_clear {n s c : Nat} (hs : s < 2 ^ n) (hb : bit s c = 1) : 2 ^ c ≤ s ∧ c < n ∧ ∀ i, bit (s - 2 ^ c) i = if i = c then 0 else bit s i := by
  have h1 : 2 ^ c ≤ s := by
    rcases Nat.lt_or_ge s (2 ^ c) with h | h
    · rw [bit_big h] at hb; omega
    · exact h
  have hcn : c < n := by
    rcases Nat.lt_or_ge c n with h | h
    · exact h
    · have := Nat.pow_le_pow_right (show 0 < 2 by decide) h
      omega
  refine ⟨h1, hcn, fun i => ?_⟩
  -- s = lo + 2^c + hi * 2^(c+1)
  have hp := Nat.two_pow_pos c
  have hd : s = s % 2 ^ c + (1 + 2 * (s / 2 ^ c / 2)) * 2 ^ c := by
    have e1 := Nat.mod_add_div s (2 ^ c)
    have e2 : s / 2 ^ c = 1 + 2 * (s / 2 ^ c / 2) := by unfold bit at hb; omega
    rw [← e2, Nat.mul_comm]
    exact e1.symm
  have hl : s % 2 ^ c < 2 ^ c := Nat.mod_lt _ hp
  have hm : s - 2 ^ c = s % 2 ^ c + (2 * (s / 2 ^ c / 2)) * 2 ^ c := by
    have : (1 + 2 * (s / 2 ^ c / 2)) * 2 ^ c = 2 ^ c + (2 * (s / 2 ^ c / 2)) * 2 ^ c := by rw [Nat.add_mul, Nat.one_mul]
    omega
  rw [hm, bit_add hl]
  by_cases hic : i < c
  · rw [if_pos hic, if_neg (by omega)]
    conv => rhs; rw [hd]
    rw [bit_add hl, if_pos hic]
  · rw [if_neg hic]
    by_cases he : i = c
    · rw [if_pos he, he, Nat.sub_self]
      unfold bit
      omega
    · rw [if_neg he]
      conv => rhs; rw [hd]
      rw [bit_add hl, if_neg hic]
      obtain ⟨j, hj⟩ : ∃ j, i - c = j + 1 := ⟨i - c - 1, by omega⟩
      rw [hj, ← bit_half, ← bit_half]
      congr 1
      omega
theorem wv_clear {f : Nat → Nat} {n s c : Nat} (hs : s < 2 ^ n) (hb : bit s c = 1) (h0 : f c = 0) : wv f n (s - 2 ^ c) = wv f n s := by
  obtain ⟨-, -, h⟩ := bit_clear hs hb
  refine sm_cong (fun i _ => ?_)
  rw [h i]
  by_cases hi : i = c
  · subst hi; simp [h0]
  · rw [if_neg hi]
theorem IsB.own {f : Nat → Nat} {n v s c : Nat} (h : IsB f n v s) (hb : bit s c = 1) : f c ≠ 0 := by
  intro h0
  obtain ⟨h1, -, -⟩ := bit_clear h.1 hb
  have h2 := h.2.2 (s - 2 ^ c) (Nat.lt_of_le_of_lt (Nat.sub_le _ _) h.1) (by rw [wv_clear h.1 hb h0]; exact h.2.1)
  rw [wv_clear h.1 hb h0] at h2
  have := Nat.two_pow_pos c
  omega
theorem wset_wv {M : Mk} {o n s : Nat} (hn : n = M 13 0) (h : ∀ c, c < n → bit s c = 1 → snd M o c) : wset M s = wv (vl M o) n s := by
  subst hn
  refine sm_cong (fun c hc => ?_)
  by_cases hb : bit s c = 1
  · rw [if_pos hb, if_pos hb, vl, if_pos (h c hc hb)]
  · rw [if_neg hb, if_neg hb]
theorem vl_snd {M : Mk} {o c : Nat} (h : vl M o c ≠ 0) : snd M o c := Decidable.byContradiction fun z => h (if_neg z)
/-- what a payment's set is worth: v or more, or all -/
theorem wset_chs {M : Mk} {o v : Nat} (hs : purse M o < v ∨ ∃ s, IsB (vl M o) (M 13 0) v s) (hw : WF M) : (purse M o < v → wset M (chs M o v) = purse M o) ∧ (¬ purse M o < v → v ≤ wset M (chs M o v)) ∧ chs M o v < 4096 := by
  have h12 : 2 ^ M 13 0 ≤ 2 ^ 12 := Nat.pow_le_pow_right (by decide) hw.co
  refine ⟨fun h => by rw [chs_lo h, wset_purse], fun h => ?_, ?_⟩
  · obtain ⟨s, hs⟩ := hs.resolve_left h
    rw [chs_hi hw h hs, wset_wv rfl (fun c _ hb => vl_snd (hs.own hb))]
    exact hs.2.1
  · by_cases h : purse M o < v
    · rw [chs_lo h]; exact Nat.lt_of_lt_of_le (setS_lt _ _) h12
    · obtain ⟨s, hs⟩ := hs.resolve_left h
      rw [chs_hi hw h hs]; exact Nat.lt_of_lt_of_le hs.1 h12
noncomputable def payM (M : Mk) (f t v : Nat) : Mk := fun j i => if j = 1 ∧ i < M 13 0 ∧ bit (chs M f v) i = 1 then t else if j = 13 ∧ i = 3 then M 13 3 + (v - wset M (chs M f v)) else M j i
noncomputable def payI (M : Mk) (i : Nat) : Mk := if M 9 i = M 13 2 ∧ M 10 i = 0 then u2 (payM M (M 6 i) (M 7 i) (M 8 i)) 10 i 1 else M
noncomputable def payN (M : Mk) : Nat → Mk
  | 0 => M
  | n + 1 => payI (payN M n) n
noncomputable def mon1 (M : Mk) : Mk := payN (age1 M) (M 13 1)
noncomputable def monN (M : Mk) : Nat → Mk
  | 0 => M
  | n + 1 => mon1 (monN M n)
theorem payM_at {M : Mk} {f t v j i : Nat} (h : j ≠ 1 ∧ (j ≠ 13 ∨ i ≠ 3)) : payM M f t v j i = M j i := by
  unfold payM
  rw [if_neg (fun z => h.1 z.1), if_neg (fun z => h.2.elim (fun w => w z.1) (fun w => w z.2))]
theorem wf_pay {M : Mk} (h : WF M) {f t v : Nat} (ht : t ≤ 3) : WF (payM M f t v) := by
  obtain ⟨a1, a2, a3, a4, a5, a6, a7⟩ := h
  refine ⟨?_, ?_, ?_, fun c => ⟨?_, ?_, ?_, ?_⟩, fun o => ?_, fun t => ?_, fun i => ⟨?_, ?_, ?_, ?_, ?_⟩⟩
  · rw [payM_at (by omega)]; exact a1
  · rw [payM_at (by omega)]; exact a2
  · rw [payM_at (by omega)]; exact a3
  · rw [payM_at (by omega)]; exact (a4 c).1
  · unfold payM
    have := (a4 c).2.1
    split
    · exact ht
    · rw [if_neg (by omega)]; exact this
  · rw [payM_at (by omega)]; exact (a4 c).2.2.1
  · rw [payM_at (by omega)]; exact (a4 c).2.2.2
  · rw [payM_at (by omega)]; exact a5 _
  · rw [payM_at (by omega)]; exact a6 _
  · rw [payM_at (by omega)]; exact (a7 i).1
  · rw [payM_at (by omega)]; exact (a7 i).2.1
  · rw [payM_at (by omega)]; exact (a7 i).2.2.1
  · rw [payM_at (by omega)]; exact (a7 i).2.2.2.1
  · rw [payM_at (by omega)]; exact (a7 i).2.2.2.2
theorem wf_payI {M : Mk} (h : WF M) (i : Nat) : WF (payI M i) := by
  unfold payI
  split
  · refine (wf_pay h (h.ln i).2.1).upd ?_
    omega
  · exact h
theorem payI_at {M : Mk} {i j c : Nat} (h : j ≠ 1 ∧ j ≠ 10 ∧ (j ≠ 13 ∨ c ≠ 3)) : payI M i j c = M j c := by
  unfold payI
  split
  · rw [u2_nj _ h.2.1, payM_at ⟨h.1, h.2.2⟩]
  · rfl
theorem wf_payN {M : Mk} (h : WF M) (n : Nat) : WF (payN M n) := by
  induction n with
  | zero => exact h
  | succ n ih => exact wf_payI ih n
theorem payN_at {M : Mk} {n j c : Nat} (h : j ≠ 1 ∧ j ≠ 10 ∧ (j ≠ 13 ∨ c ≠ 3)) : payN M n j c = M j c := by
  induction n with
  | zero => rfl
  | succ n ih => exact (payI_at h).trans ih
theorem mon1_13 (M : Mk) : mon1 M 13 0 = M 13 0 ∧ mon1 M 13 1 = M 13 1 ∧ mon1 M 13 2 = M 13 2 + 1 := by
  unfold mon1
  refine ⟨?_, ?_, ?_⟩
  · rw [payN_at (by omega), (age1_13 M).1]
  · rw [payN_at (by omega), (age1_13 M).2.1]
  · rw [payN_at (by omega), (age1_13 M).2.2.1]
theorem wf_mon1 {M : Mk} (h : WF M) (hm : M 13 2 + 1 ≤ 10000) : WF (mon1 M) := wf_payN (h.age1 hm) _
theorem wf_monN {M : Mk} (h : WF M) : ∀ {n : Nat}, M 13 2 + n ≤ 10000 → WF (monN M n) ∧ monN M n 13 2 = M 13 2 + n := by
  intro n
  induction n with
  | zero => intro _; exact ⟨h, rfl⟩
  | succ n ih =>
    intro hn
    obtain ⟨h1, h2⟩ := ih (by omega)
    exact ⟨wf_mon1 h1 (by omega), by rw [show monN M (n + 1) = mon1 (monN M n) from rfl]; rw [(mon1_13 _).2.2, h2]; omega⟩
/-! the search of the class: least code = worth * 4096 + set -/
def CR (f : Nat → Nat) (n v s t b r : Nat) : Prop := r ≤ b ∧ (∀ x, x < 2 ^ n → v ≤ s + wv f n x → r ≤ (s + wv f n x) * 4096 + (t + x)) ∧ (r = b ∨ ∃ x, x < 2 ^ n ∧ v ≤ s + wv f n x ∧ r = (s + wv f n x) * 4096 + (t + x)) ∧ (r = 1073741824 ∨ r % 4096 < t + 2 ^ n)
theorem wv_z (f : Nat → Nat) (n : Nat) : wv f n 0 = 0 := by
  unfold wv
  induction n with
  | zero => rfl
  | succ n ih => rw [sm_s, ih]; simp [bit]
theorem CR_A {f : Nat → Nat} {n v s t b : Nat} (hv : v ≤ s) (ht : t + 2 ^ n ≤ 4096) (hb : b = 1073741824 ∨ b % 4096 < t) : CR f n v s t b (min (s * 4096 + t) b) := by
  have hp := Nat.two_pow_pos n
  refine ⟨Nat.min_le_right _ _, fun x _ _ => Nat.le_trans (Nat.min_le_left _ _) ?_, ?_, ?_⟩
  · rw [Nat.add_mul]; omega
  · rcases Nat.le_total (s * 4096 + t) b with h | h
    · refine Or.inr ⟨0, hp, by omega, ?_⟩
      rw [Nat.min_eq_left h, wv_z, Nat.add_zero, Nat.add_zero]
    · exact Or.inl (Nat.min_eq_right h)
  · rcases Nat.le_total (s * 4096 + t) b with h | h
    · rw [Nat.min_eq_left h]
      refine Or.inr ?_
      rw [Nat.mul_comm, Nat.mul_add_mod, Nat.mod_eq_of_lt (by omega)]
      omega
    · rw [Nat.min_eq_right h]
      rcases hb with hb | hb
      · exact Or.inl hb
      · exact Or.inr (by omega)
theorem CR_b {f : Nat → Nat} {n v s t b : Nat} (hb : b = 1073741824 ∨ b % 4096 < t) (hn : ∀ x, x < 2 ^ n → v ≤ s + wv f n x → b ≤ (s + wv f n x) * 4096 + (t + x)) : CR f n v s t b b :=
  ⟨Nat.le_refl _, hn, Or.inl rfl, hb.elim Or.inl (fun h => Or.inr (Nat.lt_of_lt_of_le h (Nat.le_add_right _ _)))⟩
theorem CR_B {f : Nat → Nat} {v s t b : Nat} (hv : s < v) (hb : b = 1073741824 ∨ b % 4096 < t) : CR f 0 v s t b b := CR_b hb (fun x _ h => by rw [wv_0] at h; omega)
theorem CR_C {f : Nat → Nat} {n v s t b : Nat} (hv : s + sm f n < v) (hb : b = 1073741824 ∨ b % 4096 < t) : CR f n v s t b b := CR_b hb (fun x _ h => by have := wv_mono f n x; omega)
theorem CR_D {f : Nat → Nat} {n v s t b : Nat} (hv : b / 4096 = v) (hv2 : v ≤ 9999) (hb : b = 1073741824 ∨ b % 4096 < t) : CR f n v s t b b := CR_b hb (fun x _ h => by
  rcases hb with hb | hb
  · omega
  · rcases Nat.lt_or_ge v (s + wv f n x) with h1 | h1
    · have : (v + 1) * 4096 ≤ (s + wv f n x) * 4096 := Nat.mul_le_mul_right _ h1
      omega
    · have : s + wv f n x = v := by omega
      rw [this]
      omega)
theorem CR_E0 {f : Nat → Nat} {n v s t b r : Nat} (h0 : f n = 0) (h : CR f n v s t b r) : CR f (n + 1) v s t b r := by
  obtain ⟨h1, h2, h3, h4⟩ := h
  have hp := Nat.two_pow_pos n
  refine ⟨h1, fun x hx hv => ?_, ?_, h4.elim Or.inl (fun z => Or.inr (by rw [Nat.pow_succ]; omega))⟩
  · rcases split2 hx with hx | ⟨y, hy, rfl⟩
    · rw [wv_no hx] at hv ⊢; exact h2 x hx hv
    · rw [wv_hi hy, h0, Nat.add_zero] at hv ⊢
      have := h2 y hy hv
      omega
  · rcases h3 with h3 | ⟨x, hx, h5, h6⟩
    · exact Or.inl h3
    · exact Or.inr ⟨x, by rw [Nat.pow_succ]; omega, by rw [wv_no hx]; exact h5, by rw [wv_no hx]; exact h6⟩
theorem CR_E1 {f : Nat → Nat} {n v s t b r1 r2 : Nat} (h : CR f n v s t b r1) (g : CR f n v (s + f n) (t + 2 ^ n) r1 r2) : CR f (n + 1) v s t b r2 := by
  obtain ⟨h1, h2, h3, h4⟩ := h
  obtain ⟨g1, g2, g3, g4⟩ := g
  have hp := Nat.two_pow_pos n
  refine ⟨Nat.le_trans g1 h1, fun x hx hv => ?_, ?_, g4.elim Or.inl (fun z => Or.inr (by rw [Nat.pow_succ]; omega))⟩
  · rcases split2 hx with hx | ⟨y, hy, rfl⟩
    · rw [wv_no hx] at hv ⊢; exact Nat.le_trans g1 (h2 x hx hv)
    · rw [wv_hi hy] at hv ⊢
      have := g2 y hy (by omega)
      rw [show s + (wv f n y + f n) = s + f n + wv f n y by omega]
      omega
  · rcases g3 with g3 | ⟨x, hx, g5, g6⟩
    · rcases h3 with h3 | ⟨x, hx, h5, h6⟩
      · exact Or.inl (g3.trans h3)
      · exact Or.inr ⟨x, by rw [Nat.pow_succ]; omega, by rw [wv_no hx]; exact h5, by rw [wv_no hx, g3]; exact h6⟩
    · exact Or.inr ⟨x + 2 ^ n, by rw [Nat.pow_succ]; omega, by rw [wv_hi hx]; omega, by rw [wv_hi hx, g6, show s + (wv f n x + f n) = s + f n + wv f n x by omega]; omega⟩
/-- from the top: the code's set is the payment's -/
theorem CR_top {f : Nat → Nat} {n v r : Nat} (hn : n ≤ 12) (hf : sm f n ≤ 12000) (hv : v ≤ sm f n) (h : CR f n v 0 0 1073741824 r) : r < 2 ^ 31 ∧ IsB f n v (r % 4096) := by
  obtain ⟨h1, h2, h3, -⟩ := h
  have hp : 2 ^ n ≤ 2 ^ 12 := Nat.pow_le_pow_right (by decide) hn
  have hp0 := Nat.two_pow_pos n
  simp only [Nat.zero_add] at h2 h3
  have h4 := h2 (2 ^ n - 1) (by omega) (by rw [wv_all]; exact hv)
  rw [wv_all] at h4
  have h5 : sm f n * 4096 ≤ 12000 * 4096 := Nat.mul_le_mul_right _ hf
  rcases h3 with h3 | ⟨x, hx, hvx, rfl⟩
  · omega
  · have e : (wv f n x * 4096 + x) % 4096 = x := by rw [Nat.mul_comm, Nat.mul_add_mod, Nat.mod_eq_of_lt (by omega)]
    rw [e]
    exact ⟨by omega, hx, hvx, h2⟩
theorem m_shr12 {x : Nat} (h : x < 2 ^ 31) : nI x >>> (nI 12 &&& 31) = nI (x / 4096) := by rw [pk_shrN h _ 12 (sh_31 12 (by decide))]
theorem m_shl12 {x : Nat} (h : x ≤ 99999) : nI x <<< (nI 12 &&& 31) = nI (x * 4096) := by rw [pk_shlN _ 12 (sh_31 12 (by decide)) (by omega)]
theorem m_4095 {x : Nat} (h : x < 2 ^ 31) : nI x &&& nI 4095 = nI (x % 4096) := by rw [pk_andN (by omega) 12 (by decide)]
