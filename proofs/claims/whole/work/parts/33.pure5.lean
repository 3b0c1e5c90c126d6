/-! -1, or a number -/
def mI (b v : Nat) : Int32 := if b = 0 then -1 else nI v
theorem mI_le {b v w : Nat} (hw : w < 2 ^ 31) (hv : v < 2 ^ 31) : nI w ≤ mI b v ↔ b ≠ 0 ∧ w ≤ v := by
  unfold mI
  by_cases hb : b = 0
  · rw [if_pos hb]
    refine ⟨fun z => ?_, fun z => absurd hb z.1⟩
    have h0 : nI w < 0 := Int32.lt_of_le_of_lt z (by decide)
    exact absurd h0 (nI_pos (by omega))
  · rw [if_neg hb, nI_leI hw hv]
    exact ⟨fun z => ⟨hb, z⟩, fun z => z.2⟩
theorem mI_s (b v : Nat) : mI (b + 1) v = nI v := if_neg (by omega)
/-- the greatest of f 0 .. f (n - 1), the first of several, as it goes on -/
theorem rch_s {f : Nat → Nat} (n : Nat) (h : ¬ (n ≠ 0 ∧ f n ≤ f (rch f (n - 1)))) : rch f n = n := by
  match n with
  | 0 => rfl
  | n + 1 =>
    have h2 : f (rch f n) < f (n + 1) := by
      have := h
      simp at this
      omega
    unfold rch
    rw [if_pos h2]
theorem rch_n {f : Nat → Nat} (n : Nat) (h : n ≠ 0 ∧ f n ≤ f (rch f (n - 1))) : rch f n = rch f (n - 1) := by
  match n with
  | 0 => exact absurd rfl h.1
  | n + 1 =>
    have h2 : ¬ f (rch f n) < f (n + 1) := by
      have := h.2
      simp at this
      omega
    rw [show rch f (n + 1) = if f (rch f n) < f (n + 1) then n + 1 else rch f n from rfl, if_neg h2]
    rfl
/-! rotten stays rotten -/
theorem sm_mono {f g : Nat → Nat} {n : Nat} (h : ∀ c, c < n → f c ≤ g c) : sm f n ≤ sm g n := by
  induction n with
  | zero => exact Nat.le_refl _
  | succ n ih =>
    rw [sm_s, sm_s]
    have := ih (fun c hc => h c (by omega))
    have := h n (by omega)
    omega
theorem age1_3 {M : Mk} {c : Nat} (hc : c < M 13 0) : age1 M 3 c = agSt M c := by
  unfold age1
  rw [u2_nj _ (by omega)]
  unfold agUp
  rw [if_neg (by omega), if_pos ⟨rfl, hc⟩]
theorem many_age {M : Mk} : many M 1 ≤ many (age1 M) 1 := by
  unfold many
  rw [(age1_13 M).1]
  refine sm_mono (fun c hc => ?_)
  rw [age1_3 hc]
  by_cases h : M 3 c = 1
  · have e : agSt M c = 1 := by simp [agSt, h]
    rw [if_pos h, e, if_pos rfl]; exact Nat.le_refl _
  · rw [if_neg h]; exact Nat.zero_le _
theorem many_agN {M : Mk} (i : Nat) : ∀ n, many (agN M i) 1 ≤ many (agN M (i + n)) 1 := by
  intro n
  induction n with
  | zero => exact Nat.le_refl _
  | succ n ih => exact Nat.le_trans ih many_age
theorem many_le (M : Mk) (s : Nat) : many M s ≤ M 13 0 := by
  have h1 : many M s ≤ M 13 0 * 1 := sm_le (fun c _ => by split <;> omega)
  omega
theorem wf_swp {M : Mk} (h : WF M) (a b : Nat) : WF (swp M a b) := by
  obtain ⟨a1, a2, a3, a4, a5, a6, a7⟩ := h
  exact ⟨a1, a2, a3, fun c => ⟨(a4 _).1, (a4 _).2.1, (a4 _).2.2.1, (a4 _).2.2.2⟩, a5, a6, a7⟩
theorem swp_13 (M : Mk) (a b : Nat) : swp M a b 13 = M 13 := rfl
/-! which two to change -/
def cst (ρ : Nat → Nat → Nat) (st : Nat × Nat) (a b : Nat) : Nat × Nat := if ρ a b < st.1 then (ρ a b, 100 * a + b) else st
def cin (ρ : Nat → Nat → Nat) (st : Nat × Nat) (a : Nat) : Nat → Nat × Nat
  | 0 => st
  | b + 1 => if a < b then cst ρ (cin ρ st a b) a b else cin ρ st a b
def cou (ρ : Nat → Nat → Nat) (n : Nat) (st : Nat × Nat) : Nat → Nat × Nat
  | 0 => st
  | a + 1 => cin ρ (cou ρ n st a) a n
theorem cin_le {ρ : Nat → Nat → Nat} {st : Nat × Nat} {a : Nat} : ∀ b, b ≤ a + 1 → cin ρ st a b = st := by
  intro b
  induction b with
  | zero => intro _; rfl
  | succ b ih => intro h; unfold cin; rw [if_neg (by omega)]; exact ih (by omega)
def chI (ch : Nat) : Int32 := if ch = 0 then -1000000004 else nI ch
theorem cin_2 {ρ : Nat → Nat → Nat} {st : Nat × Nat} {a : Nat} (ha : a < 12) : ∀ b, b ≤ 12 → (st.2 ≤ 1200 → (cin ρ st a b).2 ≤ 1200) ∧ (∀ m, st.1 ≤ m → (cin ρ st a b).1 ≤ m) := by
  intro b
  induction b with
  | zero => intro _; exact ⟨id, fun _ h => h⟩
  | succ b ih =>
    intro h
    obtain ⟨i1, i2⟩ := ih (by omega)
    unfold cin cst
    split
    · split
      next hl => exact ⟨fun _ => by dsimp only; omega, fun m hm => Nat.le_trans (Nat.le_of_lt hl) (i2 m hm)⟩
      next => exact ⟨i1, i2⟩
    · exact ⟨i1, i2⟩
theorem cou_2 {ρ : Nat → Nat → Nat} {n : Nat} {st : Nat × Nat} (hn : n ≤ 12) : ∀ a, a ≤ 12 → (st.2 ≤ 1200 → (cou ρ n st a).2 ≤ 1200) ∧ (∀ m, st.1 ≤ m → (cou ρ n st a).1 ≤ m) := by
  intro a
  induction a with
  | zero => intro _; exact ⟨id, fun _ h => h⟩
  | succ a ih =>
    intro h
    obtain ⟨i1, i2⟩ := ih (by omega)
    obtain ⟨j1, j2⟩ := cin_2 (ρ := ρ) (st := cou ρ n st a) (show a < 12 by omega) n hn
    exact ⟨fun z => j1 (i1 z), fun m z => j2 m (i2 m z)⟩
def bestV (k s p : Nat) (sp : Prop) [Decidable sp] : Nat := if sp ∧ (if k < s then s else k) < p then 2 else if k < s then 1 else 0
theorem chI_iff {ch : Nat} (h : ch ≤ 1200) : chI ch = -1000000004 ↔ ch = 0 := by
  refine ⟨fun z => Decidable.byContradiction fun w => ?_, fun z => if_pos z⟩
  unfold chI at z
  rw [if_neg w] at z
  have h6 : (nI ch).toInt = (-1000000004 : Int32).toInt := by rw [z]
  rw [nI_toInt (by omega)] at h6
  have h7 : (-1000000004 : Int32).toInt = -1000000004 := by decide
  omega
