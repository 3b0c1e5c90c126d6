/-! THE RELATION between the class's numbers and the reference's -/
def Rel (S : St) (N : Nat → Nat → Int64) (X : St) (Y : Nat → Int64) : Prop :=
  X 0 = S 0 ∧ WW (S 0) ∧ (S 5 1 0 ≤ 1 ∧ X 3 4 0 = S 5 1 0 ∧ (S 5 1 0 = 1 → X 1 = S 1 ∧ WW (S 1))) ∧ (X 3 1 = S 4 0 ∧ X 3 4 1 = S 4 1 0 ∧ tpB (S 4)) ∧ ((∀ f, f < 7 → X 3 0 (f + 1) = S 5 0 f) ∧ X 3 0 0 = sm (fun f => S 5 0 f) 7) ∧ (∀ t, t < 4 → okB (S 6 t 0) ∧ S 6 t 1 ≤ 40 ∧ X 3 6 t = S 6 t 0 ∧ X 3 5 t = S 6 t 1) ∧ ∀ t i, t < 4 → i < 40 → Y (40 * t + i) = N t i
def RH (h : AH) : Prop := ∃ S N X Y, h = hp S N X Y ∧ Rel S N X Y
def Pq (v : Option Value) : Option Value → AH → Prop := fun w h => w = v ∧ RH h
section REL
variable {S S' : St} {N N' : Nat → Nat → Int64} {X X' : St} {Y Y' : Nat → Int64}
theorem Rel.x0 (R : Rel S N X Y) : X 0 = S 0 := R.1
theorem Rel.ww (R : Rel S N X Y) : WW (S 0) := R.2.1
theorem Rel.wf (R : Rel S N X Y) : WF (S 0) := R.2.1.1
theorem Rel.wl (R : Rel S N X Y) : WL (S 0) := R.2.1.2
theorem Rel.k1 (R : Rel S N X Y) : S 5 1 0 ≤ 1 := R.2.2.1.1
theorem Rel.kx (R : Rel S N X Y) : X 3 4 0 = S 5 1 0 := R.2.2.1.2.1
theorem Rel.kk (R : Rel S N X Y) : S 5 1 0 = 1 → X 1 = S 1 ∧ WW (S 1) := R.2.2.1.2.2
theorem Rel.t0 (R : Rel S N X Y) : X 3 1 = S 4 0 := R.2.2.2.1.1
theorem Rel.tl (R : Rel S N X Y) : X 3 4 1 = S 4 1 0 := R.2.2.2.1.2.1
theorem Rel.tb (R : Rel S N X Y) : tpB (S 4) := R.2.2.2.1.2.2
theorem Rel.f7 (R : Rel S N X Y) : ∀ f, f < 7 → X 3 0 (f + 1) = S 5 0 f := R.2.2.2.2.1.1
theorem Rel.fa (R : Rel S N X Y) : X 3 0 0 = sm (fun f => S 5 0 f) 7 := R.2.2.2.2.1.2
theorem Rel.s6 (R : Rel S N X Y) : ∀ t, t < 4 → okB (S 6 t 0) ∧ S 6 t 1 ≤ 40 ∧ X 3 6 t = S 6 t 0 ∧ X 3 5 t = S 6 t 1 := R.2.2.2.2.2.1
theorem Rel.ny (R : Rel S N X Y) : ∀ t i, t < 4 → i < 40 → Y (40 * t + i) = N t i := R.2.2.2.2.2.2
theorem Rel.sh (R : Rel S N X Y) : ∀ t, t < 4 → okB (S 6 t 0) ∧ S 6 t 1 ≤ 40 := fun t h => ⟨(R.s6 t h).1, (R.s6 t h).2.1⟩
theorem Rel.xsh (R : Rel S N X Y) : ∀ t, t < 4 → okB (X 3 6 t) ∧ X 3 5 t ≤ 40 := fun t h => by
  rw [(R.s6 t h).2.2.1, (R.s6 t h).2.2.2]
  exact R.sh t h
theorem Rel.rh (R : Rel S N X Y) : RH (hp S N X Y) := ⟨S, N, X, Y, rfl, R⟩
theorem Rel.cc {M : Mk} (R : Rel S N X Y) (g : Cc S S' M) (k : Xp X X' M) (w : WW M) : Rel S' N X' Y := by
  obtain ⟨r0, rw, ⟨rk1, rk2, rk3⟩, ⟨rt1, rt2, rt3⟩, ⟨rf1, rf2⟩, rs, rn⟩ := R
  obtain ⟨g0, g1, g4, g5, g6⟩ := g
  obtain ⟨k0, k1, k3⟩ := k
  refine ⟨by rw [k0, g0], by rw [g0]; exact w, ?_, ?_, ?_, ?_, rn⟩
  · rw [k3 4 (by decide) (by decide), g5, k1, g1]
    exact ⟨rk1, rk2, rk3⟩
  · rw [k3 1 (by decide) (by decide), k3 4 (by decide) (by decide), g4]
    exact ⟨rt1, rt2, rt3⟩
  · rw [k3 0 (by decide) (by decide), g5]
    exact ⟨rf1, rf2⟩
  · rw [k3 6 (by decide) (by decide), k3 5 (by decide) (by decide), g6]
    exact rs
theorem sm7 (f : Nat → Nat) : sm f 7 = f 0 + f 1 + f 2 + f 3 + f 4 + f 5 + f 6 := by
  simp only [sm]
  omega
theorem sm7_u {r : Mk} {p : Nat} (hp : p < 7) : sm (fun f => u2 r 0 p (r 0 p + 1) 0 f) 7 = sm (fun f => r 0 f) 7 + 1 := by
  rw [sm7, sm7]
  rcases (show p = 0 ∨ p = 1 ∨ p = 2 ∨ p = 3 ∨ p = 4 ∨ p = 5 ∨ p = 6 by omega) with rfl | rfl | rfl | rfl | rfl | rfl | rfl <;> simp [u2] <;> omega
theorem Rel.cf {p : Nat} (R : Rel S N X Y) (g : Cf S S' p) (k : Xf X X' p) (hp : p < 7) : Rel S' N X' Y := by
  obtain ⟨r0, rw, ⟨rk1, rk2, rk3⟩, ⟨rt1, rt2, rt3⟩, ⟨rf1, rf2⟩, rs, rn⟩ := R
  obtain ⟨g0, g1, g4, g5, g6⟩ := g
  obtain ⟨k0, k1, kf, k3⟩ := k
  have e5 : S' 5 1 0 = S 5 1 0 := by rw [g5]; rfl
  refine ⟨by rw [k0, g0, r0], by rw [g0]; exact rw, ?_, ?_, ⟨fun f hf => ?_, ?_⟩, ?_, rn⟩
  · rw [k3 4 (by decide) (by decide) (by decide), e5, k1, g1]
    exact ⟨rk1, rk2, rk3⟩
  · rw [k3 1 (by decide) (by decide) (by decide), k3 4 (by decide) (by decide) (by decide), g4]
    exact ⟨rt1, rt2, rt3⟩
  · rw [kf, g5]
    unfold cr u2
    by_cases e : f = p
    · rw [if_pos (by omega), if_pos ⟨rfl, e⟩, rf1 f hf, e]
    · rw [if_neg (by omega), if_neg (by omega), if_neg (fun z => e z.2), rf1 f hf]
  · rw [kf, g5, sm7_u hp]
    unfold cr
    rw [if_neg (by omega), if_pos rfl, rf2]
  · rw [k3 6 (by decide) (by decide) (by decide), k3 5 (by decide) (by decide) (by decide), g6]
    exact rs
end REL
theorem nI_tI {x : Int32} {i : Nat} (h : x = nI i) (hi : i < 2 ^ 31) : x.toInt = (i : Int) := by rw [h, nI_toInt hi]
theorem i32_ne {x y : Int32} (h : x ≠ y) : x.toInt ≠ y.toInt := fun e => h (Int32.toInt_inj.mp e)
