/-! the class as a whole: what a call changes -/
abbrev rg (x : Int32) (l h : Int) : Prop := l ≤ x.toInt ∧ x.toInt ≤ h
theorem rg_nat {x : Int32} {l h : Int} {n : Nat} (hx : rg x l h) (hl : 0 ≤ l) (hh : h ≤ n) : ∃ i : Nat, i ≤ n ∧ x = nI i ∧ l ≤ (i : Int) ∧ (i : Int) ≤ h := by
  unfold rg at hx
  have h0 : ¬ x < 0 := by
    rw [Int32.lt_iff_toInt_lt]
    show ¬ x.toInt < (0 : Int32).toInt
    have : (0 : Int32).toInt = 0 := by decide
    omega
  obtain ⟨j, hj, rfl⟩ := nI_of h0
  rw [nI_toInt hj] at hx
  exact ⟨j, by omega, rfl, by omega, by omega⟩
theorem rg_nI {i : Nat} {l h : Int} (hi : i < 2 ^ 31) : rg (nI i) l h ↔ l ≤ (i : Int) ∧ (i : Int) ≤ h := by
  unfold rg
  rw [nI_toInt hi]
theorem sw_1 (w : Int32) : ¬ rg w 0 1 ∨ w = nI 0 ∨ w = nI 1 := by
  by_cases h : rg w 0 1
  · obtain ⟨i, hi, rfl, -, -⟩ := rg_nat (n := 1) h (by omega) (by omega)
    right
    rcases (show i = 0 ∨ i = 1 by omega) with rfl | rfl <;> simp
  · exact Or.inl h
theorem sw_2 (w : Int32) : ¬ rg w 0 2 ∨ w = nI 0 ∨ w = nI 1 ∨ w = nI 2 := by
  by_cases h : rg w 0 2
  · obtain ⟨i, hi, rfl, -, -⟩ := rg_nat (n := 2) h (by omega) (by omega)
    right
    rcases (show i = 0 ∨ i = 1 ∨ i = 2 by omega) with rfl | rfl | rfl <;> simp
  · exact Or.inl h
theorem sw_3 (w : Int32) : ¬ rg w 0 3 ∨ w = nI 0 ∨ w = nI 1 ∨ w = nI 2 ∨ w = nI 3 := by
  by_cases h : rg w 0 3
  · obtain ⟨i, hi, rfl, -, -⟩ := rg_nat (n := 3) h (by omega) (by omega)
    right
    rcases (show i = 0 ∨ i = 1 ∨ i = 2 ∨ i = 3 by omega) with rfl | rfl | rfl | rfl <;> simp
  · exact Or.inl h
theorem sw_4 (w : Int32) : ¬ rg w 0 4 ∨ w = nI 0 ∨ w = nI 1 ∨ w = nI 2 ∨ w = nI 3 ∨ w = nI 4 := by
  by_cases h : rg w 0 4
  · obtain ⟨i, hi, rfl, -, -⟩ := rg_nat (n := 4) h (by omega) (by omega)
    right
    rcases (show i = 0 ∨ i = 1 ∨ i = 2 ∨ i = 3 ∨ i = 4 by omega) with rfl | rfl | rfl | rfl | rfl <;> simp
  · exact Or.inl h
theorem sw_5 (w : Int32) : ¬ rg w 0 5 ∨ w = nI 0 ∨ w = nI 1 ∨ w = nI 2 ∨ w = nI 3 ∨ w = nI 4 ∨ w = nI 5 := by
  by_cases h : rg w 0 5
  · obtain ⟨i, hi, rfl, -, -⟩ := rg_nat (n := 5) h (by omega) (by omega)
    right
    rcases (show i = 0 ∨ i = 1 ∨ i = 2 ∨ i = 3 ∨ i = 4 ∨ i = 5 by omega) with rfl | rfl | rfl | rfl | rfl | rfl <;> simp
  · exact Or.inl h
theorem sw_6 (w : Int32) : ¬ rg w 0 6 ∨ w = nI 0 ∨ w = nI 1 ∨ w = nI 2 ∨ w = nI 3 ∨ w = nI 4 ∨ w = nI 5 ∨ w = nI 6 := by
  by_cases h : rg w 0 6
  · obtain ⟨i, hi, rfl, -, -⟩ := rg_nat (n := 6) h (by omega) (by omega)
    right
    rcases (show i = 0 ∨ i = 1 ∨ i = 2 ∨ i = 3 ∨ i = 4 ∨ i = 5 ∨ i = 6 by omega) with rfl | rfl | rfl | rfl | rfl | rfl | rfl <;> simp
  · exact Or.inl h
theorem sw_7 (w : Int32) : ¬ rg w 0 7 ∨ w = nI 0 ∨ w = nI 1 ∨ w = nI 2 ∨ w = nI 3 ∨ w = nI 4 ∨ w = nI 5 ∨ w = nI 6 ∨ w = nI 7 := by
  by_cases h : rg w 0 7
  · obtain ⟨i, hi, rfl, -, -⟩ := rg_nat (n := 7) h (by omega) (by omega)
    right
    rcases (show i = 0 ∨ i = 1 ∨ i = 2 ∨ i = 3 ∨ i = 4 ∨ i = 5 ∨ i = 6 ∨ i = 7 by omega) with rfl | rfl | rfl | rfl | rfl | rfl | rfl | rfl <;> simp
  · exact Or.inl h
theorem sw_13 (w : Int32) : ¬ rg w 1 3 ∨ w = nI 1 ∨ w = nI 2 ∨ w = nI 3 := by
  by_cases h : rg w 1 3
  · obtain ⟨i, hi, rfl, h1, -⟩ := rg_nat (n := 3) h (by omega) (by omega)
    right
    rcases (show i = 1 ∨ i = 2 ∨ i = 3 by omega) with rfl | rfl | rfl <;> simp
  · exact Or.inl h
def Cc (S S' : St) (M : Mk) : Prop := S' 0 = M ∧ S' 1 = S 1 ∧ S' 4 = S 4 ∧ S' 5 = S 5 ∧ S' 6 = S 6
def Cf (S S' : St) (p : Nat) : Prop := S' 0 = S 0 ∧ S' 1 = S 1 ∧ S' 4 = S 4 ∧ S' 5 = u2 (S 5) 0 p (S 5 0 p + 1) ∧ S' 6 = S 6
def cnt (S : St) (p : Nat) : St := u3 S 5 0 p (S 5 0 p + 1)
theorem Cc.rf {S : St} : Cc S S (S 0) := ⟨rfl, rfl, rfl, rfl, rfl⟩
theorem Cc.f {S S1 : St} (h : Cc S S1 (S 0)) (p : Nat) : Cf S (cnt S1 p) p := by
  obtain ⟨h0, h1, h4, h5, h6⟩ := h
  refine ⟨?_, ?_, ?_, ?_, ?_⟩
  · unfold cnt; rw [u3_oth _ (by omega), h0]
  · unfold cnt; rw [u3_oth _ (by omega), h1]
  · unfold cnt; rw [u3_oth _ (by omega), h4]
  · unfold cnt; rw [u3_k, h5]
  · unfold cnt; rw [u3_oth _ (by omega), h6]
theorem Cf.rf {S : St} (p : Nat) : Cf S (cnt S p) p := Cc.rf.f p
theorem Ch.here {S S' : St} {M : Mk} (h : Ch S S' 0 M) : Cc S S' M := ⟨h.1, h.2 1 (by omega) (by omega), h.2 4 (by omega) (by omega), h.2 5 (by omega) (by omega), h.2 6 (by omega) (by omega)⟩
theorem Cc.tr {S S1 S2 : St} {M : Mk} (h : Cc S S1 (S 0)) (g : Cc S1 S2 M) : Cc S S2 M := ⟨g.1, g.2.1.trans h.2.1, g.2.2.1.trans h.2.2.1, g.2.2.2.1.trans h.2.2.2.1, g.2.2.2.2.trans h.2.2.2.2⟩
theorem Ch.trial {S S' : St} {k : Nat} {M : Mk} (h : Ch S S' k M) (hk : k = 2 ∨ k = 3) : Cc S S' (S 0) := ⟨h.2 0 (by omega) (by omega), h.2 1 (by omega) (by omega), h.2 4 (by omega) (by omega), h.2 5 (by omega) (by omega), h.2 6 (by omega) (by omega)⟩
theorem Cc.tr2 {S S1 S2 : St} (h : Cc S S1 (S 0)) (g : Cc S1 S2 (S1 0)) : Cc S S2 (S 0) := (h.tr g).1 |> fun _ => ⟨by rw [g.1, h.1], g.2.1.trans h.2.1, g.2.2.1.trans h.2.2.1, g.2.2.2.1.trans h.2.2.2.1, g.2.2.2.2.trans h.2.2.2.2⟩
abbrev ic (M : Mk) (x : Int32) : Prop := rg x 0 ((M 13 0 : Int) - 1)
theorem ic_nat {M : Mk} {x : Int32} (h : ic M x) (hw : WF M) : ∃ c : Nat, c < M 13 0 ∧ c < 12 ∧ x = nI c := by
  have h1 := hw.co
  obtain ⟨c, -, rfl, h3, h4⟩ := rg_nat (n := 12) h (by omega) (by omega)
  exact ⟨c, by omega, by omega, rfl⟩
def ofV (M : Mk) (c j : Nat) : Nat := if j < 4 then M j c else if j = 4 then wrt M c else if j = 5 then shr (M 0 c) (sea M) else if j = 6 then yld (M 0 c) (M 4 (M 1 c)) else if blue (M 0 c) then 0 else 1
