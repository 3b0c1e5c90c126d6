/-! subsets in their order -/
theorem land_half (x y : Nat) : (x &&& y) / 2 = (x / 2) &&& (y / 2) := by
  apply Nat.eq_of_testBit_eq
  intro i
  rw [← Nat.testBit_succ, Nat.testBit_and, Nat.testBit_and, Nat.testBit_succ, Nat.testBit_succ]
theorem land_mod (x y : Nat) : (x &&& y) % 2 = (x % 2) * (y % 2) := by
  have h := Nat.testBit_and x y 0
  simp only [Nat.testBit_zero] at h
  rcases Nat.mod_two_eq_zero_or_one x with hx | hx <;> rcases Nat.mod_two_eq_zero_or_one y with hy | hy <;> rcases Nat.mod_two_eq_zero_or_one (x &&& y) with hz | hz <;> simp [hx, hy, hz] at h ⊢
theorem land_eq {x y z : Nat} : x &&& y = z ↔ (x / 2) &&& (y / 2) = z / 2 ∧ (x % 2) * (y % 2) = z % 2 := by
  rw [← land_half, ← land_mod]
  refine ⟨fun h => by rw [h]; exact ⟨rfl, rfl⟩, fun h => by omega⟩
abbrev sub (s a : Nat) : Prop := s &&& a = s
theorem sub_half {s a : Nat} (h : sub s a) : sub (s / 2) (a / 2) ∧ (s % 2) * (a % 2) = s % 2 := land_eq.mp h
theorem sub_low {s a : Nat} (h : sub s a) : s % 2 ≤ a % 2 := by
  have := (sub_half h).2
  rcases Nat.mod_two_eq_zero_or_one a with ha | ha
  · rw [ha] at this; omega
  · omega
theorem sub_le {s a : Nat} (h : sub s a) : s ≤ a := by
  have : s &&& a ≤ a := Nat.and_le_right
  rw [h] at this
  exact this
theorem sub_mk {s a : Nat} (h : sub (s / 2) (a / 2)) (h2 : s % 2 ≤ a % 2) : sub s a := by
  refine land_eq.mpr ⟨h, ?_⟩
  rcases Nat.mod_two_eq_zero_or_one s with hs | hs
  · rw [hs]; omega
  · have : a % 2 = 1 := by omega
    rw [hs, this]
def nxt : Nat → Nat → Nat → Nat
  | 0, _, _ => 0
  | w + 1, a, s => if a % 2 = 1 ∧ s % 2 = 0 then s + 1 else 2 * nxt w (a / 2) (s / 2)
theorem low_all (w : Nat) : ∀ (m a s : Nat), a < 2 ^ w → w ≤ m → sub s a → (2 ^ m - 1 - (a - s)) &&& a = s := by
  induction w with
  | zero =>
    intro m a s ha hm hs
    have e : a = 0 := by rw [Nat.pow_zero] at ha; omega
    subst e
    have := sub_le hs
    have e2 : s = 0 := by omega
    subst e2
    rw [Nat.and_zero]
  | succ w ih =>
    intro m a s ha hm hs
    obtain ⟨h1, h2⟩ := sub_half hs
    have h3 := sub_low hs
    have h4 := sub_le hs
    have h5 := sub_le h1
    obtain ⟨m, rfl⟩ : ∃ j, m = j + 1 := ⟨m - 1, by omega⟩
    have hp := Nat.two_pow_pos m
    have hw : 2 ^ w ≤ 2 ^ m := Nat.pow_le_pow_right (by decide) (by omega)
    rw [Nat.pow_succ] at ha ⊢
    have ih1 := ih m (a / 2) (s / 2) (by omega) (by omega) h1
    have ha2 : a / 2 < 2 ^ m := by omega
    refine land_eq.mpr ⟨?_, ?_⟩
    · rw [show (2 ^ m * 2 - 1 - (a - s)) / 2 = 2 ^ m - 1 - (a / 2 - s / 2) by omega]
      exact ih1
    · rcases Nat.mod_two_eq_zero_or_one a with q | q
      · rw [q]; omega
      · rw [q, show (2 ^ m * 2 - 1 - (a - s)) % 2 = s % 2 by omega, Nat.mul_one]
theorem nxt_land (w : Nat) : ∀ (m a s : Nat), a < 2 ^ w → w ≤ m → sub s a → (s + 2 ^ m - a) &&& a = nxt w a s := by
  induction w with
  | zero =>
    intro m a s ha hm hs
    have e : a = 0 := by rw [Nat.pow_zero] at ha; omega
    subst e
    rw [Nat.and_zero]
    rfl
  | succ w ih =>
    intro m a s ha hm hs
    obtain ⟨h1, h2⟩ := sub_half hs
    have h3 := sub_low hs
    have h4 := sub_le hs
    have h5 := sub_le h1
    obtain ⟨m, rfl⟩ : ∃ j, m = j + 1 := ⟨m - 1, by omega⟩
    have hp := Nat.two_pow_pos m
    have hw : 2 ^ w ≤ 2 ^ m := Nat.pow_le_pow_right (by decide) (by omega)
    rw [Nat.pow_succ] at ha ⊢
    have ih1 := ih m (a / 2) (s / 2) (by omega) (by omega) h1
    unfold nxt
    by_cases hc : a % 2 = 1 ∧ s % 2 = 0
    · rw [if_pos hc]
      refine land_eq.mpr ⟨?_, ?_⟩
      · rw [show (s + 2 ^ m * 2 - a) / 2 = 2 ^ m - 1 - (a / 2 - s / 2) by omega, show (s + 1) / 2 = s / 2 by omega]
        exact low_all w m (a / 2) (s / 2) (by omega) (by omega) h1
      · rw [hc.1, show (s + 2 ^ m * 2 - a) % 2 = 1 by omega]; omega
    · rw [if_neg hc]
      refine land_eq.mpr ⟨?_, ?_⟩
      · rw [show (s + 2 ^ m * 2 - a) / 2 = s / 2 + 2 ^ m - a / 2 by omega, ih1]; omega
      · rw [show (s + 2 ^ m * 2 - a) % 2 = 0 by omega]; omega
theorem nxt_all (w : Nat) : ∀ a, nxt w a a = 0 := by
  induction w with
  | zero => intro a; rfl
  | succ w ih => intro a; unfold nxt; rw [if_neg (by omega), ih]
theorem nxt_ok (w : Nat) : ∀ (a s : Nat), a < 2 ^ w → sub s a → s ≠ a → s < nxt w a s ∧ sub (nxt w a s) a ∧ ∀ u, s < u → u < nxt w a s → ¬ sub u a := by
  induction w with
  | zero =>
    intro a s ha hs hne
    have := sub_le hs
    rw [Nat.pow_zero] at ha
    omega
  | succ w ih =>
    intro a s ha hs hne
    obtain ⟨h1, h2⟩ := sub_half hs
    have h3 := sub_low hs
    rw [Nat.pow_succ] at ha
    unfold nxt
    by_cases hc : a % 2 = 1 ∧ s % 2 = 0
    · rw [if_pos hc]
      refine ⟨by omega, sub_mk (by rw [show (s + 1) / 2 = s / 2 by omega]; exact h1) (by omega), fun u h4 h5 => by omega⟩
    · rw [if_neg hc]
      have hne2 : s / 2 ≠ a / 2 := by omega
      obtain ⟨g1, g2, g3⟩ := ih (a / 2) (s / 2) (by omega) h1 hne2
      refine ⟨by omega, sub_mk (by rw [Nat.mul_div_cancel_left _ (by decide)]; exact g2) (by omega), fun u h4 h5 hu => ?_⟩
      obtain ⟨k1, k2⟩ := sub_half hu
      have k3 := sub_low hu
      rcases Nat.lt_or_ge (s / 2) (u / 2) with z | z
      · exact g3 (u / 2) z (by omega) k1
      · omega
def pop : Nat → Nat → Nat
  | 0, _ => 0
  | w + 1, a => a % 2 + pop w (a / 2)
def rk : Nat → Nat → Nat → Nat
  | 0, _, _ => 0
  | w + 1, a, s => if a % 2 = 1 then 2 * rk w (a / 2) (s / 2) + s % 2 else rk w (a / 2) (s / 2)
theorem rk_0 (w : Nat) : ∀ a, rk w a 0 = 0 := by
  induction w with
  | zero => intro a; rfl
  | succ w ih => intro a; unfold rk; rw [Nat.zero_div, ih]; split <;> rfl
theorem rk_all (w : Nat) : ∀ a, rk w a a + 1 = 2 ^ pop w a := by
  induction w with
  | zero => intro a; rfl
  | succ w ih =>
    intro a
    unfold rk pop
    have := ih (a / 2)
    split
    next h => rw [h, Nat.add_comm 1, Nat.pow_succ]; omega
    next h => rw [show a % 2 = 0 by omega, Nat.zero_add]; exact this
theorem rk_nxt (w : Nat) : ∀ (a s : Nat), a < 2 ^ w → sub s a → s ≠ a → rk w a (nxt w a s) = rk w a s + 1 := by
  induction w with
  | zero =>
    intro a s ha hs hne
    have := sub_le hs
    rw [Nat.pow_zero] at ha
    omega
  | succ w ih =>
    intro a s ha hs hne
    obtain ⟨h1, h2⟩ := sub_half hs
    have h3 := sub_low hs
    rw [Nat.pow_succ] at ha
    unfold rk nxt
    by_cases hc : a % 2 = 1 ∧ s % 2 = 0
    · rw [if_pos hc, if_pos hc.1, if_pos hc.1, show (s + 1) / 2 = s / 2 by omega]
      omega
    · rw [if_neg hc, Nat.mul_div_cancel_left _ (by decide)]
      have hi := ih (a / 2) (s / 2) (by omega) h1 (by omega)
      rw [hi]
      split <;> omega
/-- the best of the subsets below n, the first of several -/
def fb (f : Nat → Nat) (a : Nat) : Nat → Nat
  | 0 => 0
  | n + 1 => if sub n a ∧ (n = 0 ∨ f (fb f a n) < f n) then n else fb f a n
theorem fb_skip {f : Nat → Nat} {a : Nat} : ∀ (d n : Nat), (∀ u, n ≤ u → u < n + d → ¬ sub u a) → fb f a (n + d) = fb f a n := by
  intro d
  induction d with
  | zero => intro n _; rfl
  | succ d ih =>
    intro n h
    rw [← Nat.add_assoc]
    show (if sub (n + d) a ∧ _ then n + d else fb f a (n + d)) = _
    rw [if_neg (fun z => h (n + d) (by omega) (by omega) z.1)]
    exact ih n (fun u h1 h2 => h u h1 (by omega))
theorem fb_nxt {f : Nat → Nat} {w a s : Nat} (ha : a < 2 ^ w) (hs : sub s a) (hne : s ≠ a) : fb f a (nxt w a s) = fb f a (s + 1) := by
  obtain ⟨h1, -, h3⟩ := nxt_ok w a s ha hs hne
  have := fb_skip (f := f) (a := a) (nxt w a s - (s + 1)) (s + 1) (fun u g1 g2 => h3 u (by omega) (by omega))
  rwa [show s + 1 + (nxt w a s - (s + 1)) = nxt w a s by omega] at this
theorem fb_le {f : Nat → Nat} {a : Nat} : ∀ n, fb f a n ≤ n := by
  intro n
  induction n with
  | zero => exact Nat.le_refl _
  | succ n ih => unfold fb; split <;> omega
theorem sub_0 (a : Nat) : sub 0 a := Nat.zero_and a
theorem sub_rf (a : Nat) : sub a a := Nat.and_self a
theorem m_nxt {a s : Nat} (ha : a < 4096) (hs : sub s a) : (nI s - nI a) &&& nI a = nI (nxt 12 a s) := by
  have h := nxt_land 12 32 a s ha (by decide) hs
  have hle := sub_le hs
  have e : nI s - nI a = nI (s + 2 ^ 32 - a) := by
    apply Int32.toBitVec_inj.mp
    apply BitVec.eq_of_toNat_eq
    simp [nI, BitVec.toNat_sub, BitVec.toNat_ofNat]
    omega
  rw [e, nI_and, h]
