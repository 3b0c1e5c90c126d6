section REL2
variable {S S' : St} {N N' : Nat → Nat → Int64} {X X' : St} {Y Y' : Nat → Int64}
theorem ub_le (x : Int32) (i : Nat) : ub x i ≤ 255 := by
  unfold ub
  omega
theorem Rel.feed {x : Int32} {n : Nat} (R : Rel S N X Y) (hn : ¬ 120 < S 4 1 0 + n) (g0 : S' 0 = S 0) (g1 : S' 1 = S 1) (g4 : S' 4 = fdP (S 4) x n n) (g5 : S' 5 = S 5) (g6 : S' 6 = S 6)
    (k : X' 0 = X 0 ∧ X' 1 = X 1 ∧ X' 3 1 = fdR (X 3 1) (S 4 1 0) x n n ∧ X' 3 4 = upf (X 3 4) 1 (S 4 1 0 + n) ∧ ∀ j, j ≠ 1 → j ≠ 4 → X' 3 j = X 3 j) : Rel S' N X' Y := by
  obtain ⟨r0, rw, ⟨rk1, rk2, rk3⟩, ⟨rt1, rt2, rt3⟩, ⟨rf1, rf2⟩, rs, rn⟩ := R
  obtain ⟨k0, k1, kt, k4, kj⟩ := k
  have e40 : X' 3 4 0 = X 3 4 0 := by rw [k4]; exact if_neg (by decide)
  have e41 : X' 3 4 1 = S 4 1 0 + n := by rw [k4]; exact if_pos rfl
  have e10 : S' 4 1 0 = S 4 1 0 + n := by
    rw [g4]
    unfold fdP
    rw [if_neg (by omega), if_pos ⟨rfl, rfl⟩]
  refine ⟨by rw [k0, g0, r0], by rw [g0]; exact rw, ?_, ⟨?_, by rw [e41, e10], ?_⟩, ?_, ?_, rn⟩
  · rw [e40, g5, k1, g1]
    exact ⟨rk1, rk2, rk3⟩
  · rw [kt, g4, rt1]
    funext c
    unfold fdR fdP
    by_cases h : S 4 1 0 ≤ c ∧ c < S 4 1 0 + n
    · rw [if_pos h, if_pos ⟨rfl, h⟩]
    · rw [if_neg h, if_neg (fun z => h z.2), if_neg (by omega)]
  · refine ⟨by rw [e10]; omega, fun i hi => ?_⟩
    rw [e10] at hi
    rw [g4]
    unfold fdP
    by_cases h : S 4 1 0 ≤ i ∧ i < S 4 1 0 + n
    · rw [if_pos ⟨rfl, h⟩]
      exact ub_le x _
    · rw [if_neg (fun z => h z.2), if_neg (by omega)]
      exact rt3.2 i (by omega)
  · rw [kj 0 (by decide) (by decide), g5]
    exact ⟨rf1, rf2⟩
  · rw [kj 6 (by decide) (by decide), kj 5 (by decide) (by decide), g6]
    exact rs
theorem Rel.mkt {M : Mk} (R : Rel S N X Y) (w : WW M) (g0 : S' 0 = M) (g1 : S' 1 = S 1) (g5 : S' 5 = S 5) (g6 : S' 6 = S 6) (g4 : S' 4 0 = S 4 0) (gl : S' 4 1 0 = 0)
    (k0 : X' 0 = M) (k1 : X' 1 = X 1) (kj : ∀ j, j ≠ 2 → j ≠ 3 → j ≠ 4 → X' 3 j = X 3 j) (kk : X' 3 4 0 = X 3 4 0) (kl : X' 3 4 1 = 0) : Rel S' N X' Y := by
  obtain ⟨r0, rw, ⟨rk1, rk2, rk3⟩, ⟨rt1, rt2, rt3⟩, ⟨rf1, rf2⟩, rs, rn⟩ := R
  refine ⟨by rw [k0, g0], by rw [g0]; exact w, ?_, ⟨?_, by rw [kl, gl], ?_⟩, ?_, ?_, rn⟩
  · rw [kk, g5, k1, g1]
    exact ⟨rk1, rk2, rk3⟩
  · rw [kj 1 (by decide) (by decide) (by decide), g4, rt1]
  · refine ⟨by rw [gl]; exact Nat.zero_le _, fun i hi => ?_⟩
    rw [gl] at hi
    exact absurd hi (Nat.not_lt_zero i)
  · rw [kj 0 (by decide) (by decide) (by decide), g5]
    exact ⟨rf1, rf2⟩
  · rw [kj 6 (by decide) (by decide) (by decide), kj 5 (by decide) (by decide) (by decide), g6]
    exact rs
theorem Rel.image (R : Rel S N X Y) (g0 : S' 0 = S 0) (g1 : S' 1 = S 0) (g4 : S' 4 = S 4) (g5 : S' 5 = u2 (S 5) 1 0 1) (g6 : S' 6 = S 6) : Rel S' N (u3 (uk X 1 (S 0)) 3 4 0 1) Y := by
  obtain ⟨r0, rw, ⟨rk1, rk2, rk3⟩, ⟨rt1, rt2, rt3⟩, ⟨rf1, rf2⟩, rs, rn⟩ := R
  have e5 : S' 5 1 0 = 1 := by rw [g5]; rfl
  have e50 : S' 5 0 = S 5 0 := by rw [g5]; exact u2_row _ (by decide) _ _
  have ej : ∀ j, j ≠ 4 → u3 (uk X 1 (S 0)) 3 4 0 1 3 j = X 3 j := fun j hj => by rw [u3_othj _ hj, uk_o _ _ (by decide)]
  have e41 : u3 (uk X 1 (S 0)) 3 4 0 1 3 4 1 = X 3 4 1 := by rw [u3_ni _ (by decide), uk_o _ _ (by decide)]
  refine ⟨by rw [u3_oth _ (by decide), uk_o _ _ (by decide), g0, r0], by rw [g0]; exact rw, ⟨by rw [e5]; decide, by rw [e5]; exact u3_s _ _ _ _ _, fun _ => ⟨by rw [u3_oth _ (by decide), uk_s, g1], by rw [g1]; exact rw⟩⟩, ?_, ?_, ?_, rn⟩
  · rw [ej 1 (by decide), e41, g4]
    exact ⟨rt1, rt2, rt3⟩
  · rw [ej 0 (by decide), e50]
    exact ⟨rf1, rf2⟩
  · rw [ej 6 (by decide), ej 5 (by decide), g6]
    exact rs
theorem Rel.tear (R : Rel S N X Y) (g0 : S' 0 = S 0) (g1 : S' 1 = S 1) (g4 : S' 4 = S 4) (g5 : S' 5 = u2 (S 5) 1 0 0) (g6 : S' 6 = S 6) : Rel S' N (u3 X 3 4 0 0) Y := by
  obtain ⟨r0, rw, ⟨rk1, rk2, rk3⟩, ⟨rt1, rt2, rt3⟩, ⟨rf1, rf2⟩, rs, rn⟩ := R
  have e5 : S' 5 1 0 = 0 := by rw [g5]; rfl
  have e50 : S' 5 0 = S 5 0 := by rw [g5]; exact u2_row _ (by decide) _ _
  have ej : ∀ j, j ≠ 4 → u3 X 3 4 0 0 3 j = X 3 j := fun j hj => by rw [u3_othj _ hj]
  have e41 : u3 X 3 4 0 0 3 4 1 = X 3 4 1 := by rw [u3_ni _ (by decide)]
  refine ⟨by rw [u3_oth _ (by decide), g0, r0], by rw [g0]; exact rw, ⟨by rw [e5]; decide, by rw [e5]; exact u3_s _ _ _ _ _, fun z => by rw [e5] at z; exact absurd z (by decide)⟩, ?_, ?_, ?_, rn⟩
  · rw [ej 1 (by decide), e41, g4]
    exact ⟨rt1, rt2, rt3⟩
  · rw [ej 0 (by decide), e50]
    exact ⟨rf1, rf2⟩
  · rw [ej 6 (by decide), ej 5 (by decide), g6]
    exact rs
theorem Rel.wipe (R : Rel S N X Y) (g0 : S' 0 = S 0) (g1 : S' 1 = S 1) (g4 : S' 4 = u2 (S 4) 1 0 0) (g5 : S' 5 = S 5) (g6 : S' 6 = S 6) : Rel S' N (u3 X 3 4 1 0) Y := by
  have e40 : S' 4 0 = S 4 0 := by rw [g4]; exact u2_row _ (by decide) _ _
  have e41 : S' 4 1 0 = 0 := by rw [g4]; rfl
  exact R.mkt R.ww g0 g1 g5 g6 e40 e41 (by rw [u3_oth _ (by decide)]; exact R.x0) (u3_oth _ (by decide)) (fun j _ _ h4 => u3_othj _ h4) (u3_ni _ (by decide)) (u3_s _ _ _ _ _)
theorem Rel.sheet {t c n : Nat} (R : Rel S N X Y) (ht : t < 4) (hc : okB c) (hn : n ≤ 40) (g6 : S' 6 = u2 (u2 (S 6) t 0 c) t 1 (if c = 0 then 0 else n)) (ga : ∀ a, a ≠ 6 → S' a = S a)
    (k0 : X' 0 = X 0) (k1 : X' 1 = X 1) (k6 : X' 3 6 = upf (X 3 6) t c) (k5 : X' 3 5 = upf (X 3 5) t (if c = 0 then 0 else n)) (kj : ∀ j, j ≠ 2 → j ≠ 3 → j ≠ 5 → j ≠ 6 → X' 3 j = X 3 j) : Rel S' (zN N t 40) X' (zY Y t 40) := by
  obtain ⟨r0, rw, ⟨rk1, rk2, rk3⟩, ⟨rt1, rt2, rt3⟩, ⟨rf1, rf2⟩, rs, rn⟩ := R
  refine ⟨by rw [k0, ga 0 (by decide), r0], by rw [ga 0 (by decide)]; exact rw, ?_, ?_, ?_, fun a ha => ?_, fun a i ha hi => ?_⟩
  · rw [kj 4 (by decide) (by decide) (by decide) (by decide), ga 5 (by decide), k1, ga 1 (by decide)]
    exact ⟨rk1, rk2, rk3⟩
  · rw [kj 1 (by decide) (by decide) (by decide) (by decide), kj 4 (by decide) (by decide) (by decide) (by decide), ga 4 (by decide)]
    exact ⟨rt1, rt2, rt3⟩
  · rw [kj 0 (by decide) (by decide) (by decide) (by decide), ga 5 (by decide)]
    exact ⟨rf1, rf2⟩
  · rw [g6, k6, k5]
    by_cases e : a = t
    · subst e
      have e0 : u2 (u2 (S 6) a 0 c) a 1 (if c = 0 then 0 else n) a 0 = c := by
        unfold u2
        rw [if_neg (by omega), if_pos ⟨rfl, rfl⟩]
      have e1 : u2 (u2 (S 6) a 0 c) a 1 (if c = 0 then 0 else n) a 1 = if c = 0 then 0 else n := by
        unfold u2
        rw [if_pos ⟨rfl, rfl⟩]
      rw [e0, e1]
      refine ⟨hc, ?_, if_pos rfl, if_pos rfl⟩
      split <;> omega
    · have e0 : ∀ i, u2 (u2 (S 6) t 0 c) t 1 (if c = 0 then 0 else n) a i = S 6 a i := fun i => by
        unfold u2
        rw [if_neg (fun z => e z.1), if_neg (fun z => e z.1)]
      rw [e0, e0]
      obtain ⟨a1, a2, a3, a4⟩ := rs a ha
      exact ⟨a1, a2, (if_neg e).trans a3, (if_neg e).trans a4⟩
  · unfold zY zN
    by_cases e : a = t
    · subst e
      rw [if_pos (by omega), if_pos ⟨rfl, hi⟩]
    · rw [if_neg (by omega), if_neg (fun z => e z.1)]
      exact rn a i ha hi
theorem Rel.num (R : Rel S N X Y) (h : ∀ t i, t < 4 → i < 40 → Y' (40 * t + i) = N' t i) : Rel S N' X Y' := ⟨R.1, R.2.1, R.2.2.1, R.2.2.2.1, R.2.2.2.2.1, R.2.2.2.2.2.1, h⟩
theorem Rel.wr {t c : Nat} {v : Int64} (R : Rel S N X Y) (ht : t < 4) (hc : c < 40) : Rel S (uN2 N t c v) X (vp_updL Y (40 * t + c) v) := by
  refine R.num (fun a i ha hi => ?_)
  unfold uN2 vp_updL
  by_cases e : a = t ∧ i = c
  · rw [if_pos (by omega), if_pos e]
  · rw [if_neg (by omega), if_neg e]
    exact R.ny a i ha hi
theorem Rel.cp {t u a b n : Nat} (R : Rel S N X Y) (ht : t < 4) (hu : u < 4) (h1 : a + n ≤ 40) (h2 : b + n ≤ 40) : Rel S (cpN N t u a b n) X (cpY Y (40 * t + a) (40 * u + b) 0 n) := by
  refine R.num (fun q i hq hi => ?_)
  unfold cpY cpN va_cpy
  by_cases e : q = u
  · subst e
    rw [if_pos rfl]
    by_cases e2 : b ≤ i ∧ i < b + n
    · rw [if_pos (by omega), if_pos e2, ← R.ny t (a + (i - b)) ht (by omega)]
      congr 1
      omega
    · rw [if_neg (by omega), if_neg e2]
      exact R.ny q i hq hi
  · rw [if_neg e, if_neg (by omega)]
    exact R.ny q i hq hi
theorem Rel.bk {t b m : Nat} {f g : Nat → Nat} (R : Rel S N X Y) (ht : t < 4) (hm : m ≤ 40) (hf : ∀ c, f c = g c) : Rel S (bkN N t b f m) X (bkY Y t b g m) := by
  refine R.num (fun q i hq hi => ?_)
  unfold bkN bkY
  by_cases e : q = t ∧ i < m
  · rw [if_pos (by omega), if_pos e, hf, show 40 * q + i - 40 * t = i by omega]
  · rw [if_neg (by omega), if_neg e]
    exact R.ny q i hq hi
end REL2
theorem okB_or {b : Int32} {c : Nat} (h : okB c) (e : b = nI c) : b = nI 0 ∨ b = nI 8 ∨ b = nI 16 ∨ b = nI 64 := by
  subst e
  rcases h with h | h | h | h <;> subst h <;> simp
theorem layM_cong {M : Mk} {f g : Nat → Int64} {n : Nat} (h : ∀ i, i < n → f i = g i) : layM M f n = layM M g n := by
  funext j i
  unfold layM
  by_cases e : j = 5 ∧ i < n
  · rw [h i e.2]
  · rw [if_neg (fun z => e ⟨z.1, z.2.1⟩), if_neg (fun z => e ⟨z.1, z.2.1⟩)]
theorem layN_cong {f g : Nat → Int64} {n : Nat} (h : ∀ i, i < n → f i = g i) : layN f n = layN g n := sm_cong (fun i hi => by rw [h i hi])
