/-! the reference: what its calls change -/
def uk (X : St) (b : Nat) (M : Mk) : St := fun k => if k = b then M else X k
theorem uk_s (X : St) (b : Nat) (M : Mk) : uk X b M b = M := if_pos rfl
theorem uk_o (X : St) {b k : Nat} (M : Mk) (h : k ≠ b) : uk X b M k = X k := if_neg h
def Xc (X X' : St) (M : Mk) : Prop := X' 0 = M ∧ X' 1 = X 1 ∧ X' 2 = X 2 ∧ ∀ j, j ≠ 2 → j ≠ 3 → X' 3 j = X 3 j
def Xp (X X' : St) (M : Mk) : Prop := X' 0 = M ∧ X' 1 = X 1 ∧ ∀ j, j ≠ 2 → j ≠ 3 → X' 3 j = X 3 j
def cr (r : Nat → Nat) (p : Nat) : Nat → Nat := fun i => if i = p + 1 then r i + 1 else if i = 0 then r 0 + 1 else r i
def Xf (X X' : St) (p : Nat) : Prop := X' 0 = X 0 ∧ X' 1 = X 1 ∧ X' 3 0 = cr (X 3 0) p ∧ ∀ j, j ≠ 0 → j ≠ 2 → j ≠ 3 → X' 3 j = X 3 j
theorem Xc.rf {X : St} : Xc X X (X 0) := ⟨rfl, rfl, rfl, fun _ _ _ => rfl⟩
theorem Xc.p {X X' : St} {M : Mk} (h : Xc X X' M) : Xp X X' M := ⟨h.1, h.2.1, h.2.2.2⟩
theorem Xc.u {X X' : St} {M : Mk} (h : Xc X X' M) (j i v : Nat) : Xc X (u3 X' 0 j i v) (u2 M j i v) :=
  ⟨by rw [u3_k, h.1], by rw [u3_oth _ (by decide)]; exact h.2.1, by rw [u3_oth _ (by decide)]; exact h.2.2.1, fun a h2 h3 => by rw [u3_oth _ (by decide)]; exact h.2.2.2 a h2 h3⟩
theorem Xc.v {X X' : St} {M : Mk} (h : Xc X X' M) {j : Nat} (hj : j = 2 ∨ j = 3) (i v : Nat) : Xc X (u3 X' 3 j i v) M :=
  ⟨by rw [u3_oth _ (by decide)]; exact h.1, by rw [u3_oth _ (by decide)]; exact h.2.1, by rw [u3_oth _ (by decide)]; exact h.2.2.1, fun a h2 h3 => by rw [u3_othj _ (by omega)]; exact h.2.2.2 a h2 h3⟩
theorem Xc.tr {X X1 X2 : St} {M1 M2 : Mk} (h : Xc X X1 M1) (g : Xc X1 X2 M2) : Xc X X2 M2 := ⟨g.1, g.2.1.trans h.2.1, g.2.2.1.trans h.2.2.1, fun j a b => (g.2.2.2 j a b).trans (h.2.2.2 j a b)⟩
theorem Xc.to {X X1 : St} {M1 M2 : Mk} (h : Xc X X1 M1) (e : M1 = M2) : Xc X X1 M2 := e ▸ h
theorem Xp.to {X X1 : St} {M1 M2 : Mk} (h : Xp X X1 M1) (e : M1 = M2) : Xp X X1 M2 := e ▸ h
theorem Xp.tr {X X1 X2 : St} {M1 M2 : Mk} (h : Xp X X1 M1) (g : Xp X1 X2 M2) : Xp X X2 M2 := ⟨g.1, g.2.1.trans h.2.1, fun j a b => (g.2.2 j a b).trans (h.2.2 j a b)⟩
theorem Xp.rf {X : St} : Xp X X (X 0) := Xc.rf.p
/-- laid by -/
theorem Xp.by2 {X : St} (M : Mk) : Xp X (uk X 2 M) (X 0) := ⟨uk_o _ _ (by decide), uk_o _ _ (by decide), fun j _ _ => by rw [uk_o _ _ (by decide)]⟩
theorem Xp.back {X X1 : St} {M M1 : Mk} (h : Xp X X1 M1) : Xp X (uk X1 0 M) M := ⟨uk_s _ _ _, (uk_o _ _ (by decide)).trans h.2.1, fun j a b => by rw [uk_o _ _ (by decide)]; exact h.2.2 j a b⟩
def cntX (X : St) (p : Nat) : St := u3 (u3 X 3 0 0 (X 3 0 0 + 1)) 3 0 (p + 1) (X 3 0 (p + 1) + 1)
theorem Xp.f {X X1 : St} (h : Xp X X1 (X 0)) (p : Nat) : Xf X (cntX X1 p) p := by
  obtain ⟨h0, h1, h3⟩ := h
  have e0 := h3 0 (by decide) (by decide)
  refine ⟨?_, ?_, ?_, fun j a b c => ?_⟩
  · unfold cntX; rw [u3_oth _ (by decide), u3_oth _ (by decide), h0]
  · unfold cntX; rw [u3_oth _ (by decide), u3_oth _ (by decide), h1]
  · funext i
    unfold cntX cr u3
    rw [← e0]
    by_cases hi : i = p + 1
    · subst hi; simp
    · by_cases h0 : i = 0
      · subst h0; simp
      · simp [hi, h0]
  · unfold cntX; rw [u3_othj _ (by omega), u3_othj _ (by omega)]; exact h3 j b c
theorem Xf.rf {X : St} (p : Nat) : Xf X (cntX X p) p := Xp.rf.f p
theorem hp_uk {S : St} {N : Nat → Nat → Int64} {X : St} {Y : Nat → Int64} {b : Nat} {M : Mk} (hb : b < 3) (h : ∀ r, r < 108 → nI (rowOf (X b) r) = nI (rowOf M r)) : hp S N X Y = hp S N (uk X b M) Y := by
  have hall : (fun r => nI (rowOf (X b) r)) = fun r => nI (rowOf M r) := by
    funext r
    by_cases hr : r < 108
    · exact h r hr
    · unfold rowOf; rw [if_neg hr, if_neg hr]
  have e3 : uk X b M 3 = X 3 := uk_o _ _ (by omega)
  funext i
  unfold hp
  simp only [xfs, e3]
  by_cases c0 : i = 0
  · rw [if_pos c0, if_pos c0]
  rw [if_neg c0, if_neg c0]
  by_cases c1 : i < 57
  · rw [if_pos c1, if_pos c1]
  rw [if_neg c1, if_neg c1]
  by_cases c2 : i = 57
  · rw [if_pos c2, if_pos c2]
  rw [if_neg c2, if_neg c2]
  by_cases c3 : i = 58
  · rw [if_pos c3, if_pos c3]
  rw [if_neg c3, if_neg c3]
  by_cases c4 : i = 59
  · rw [if_pos c4, if_pos c4]
  rw [if_neg c4, if_neg c4]
  by_cases c5 : i < 68
  · rw [if_pos c5, if_pos c5]
  rw [if_neg c5, if_neg c5]
  by_cases c6 : i = 68
  · rw [if_pos c6, if_pos c6]
  rw [if_neg c6, if_neg c6]
  by_cases c7 : i = 69
  · rw [if_pos c7, if_pos c7]
  rw [if_neg c7, if_neg c7]
  by_cases c8 : i < 73
  · rw [if_pos c8, if_pos c8]
    by_cases hi : i - 70 = b
    · rw [hi, uk_s, hall]
    · rw [uk_o _ _ hi]
  · rw [if_neg c8, if_neg c8]
section RR
variable {d : Nat} {own : String} {cc : ByteArray} {nL : Nat} {ret : Option FieldType} {pc q : Nat} {lo : List (Option Value)} {st : List Value} {Q : Option Value → AH → Prop} {S : St} {N : Nat → Nat → Int64} {X : St} {Y : Nat → Int64}
theorem go_rlda {a r : Nat} (hd : decode cc pc = .ok (.iaload, 1)) (ha : a < 3) (hr : r < 108) (hq : pc + 1 = q) (kk : Go d own cc nL ret q lo (.int (nI (rowOf (X a) r)) :: st) (hp S N X Y) Q) : Go d own cc nL ret pc lo (.int (nI r) :: .ref (70 + a) :: st) (hp S N X Y) Q := go_iald hd (by show 70 + a < 80; omega) (hp_xr ha) (by decide) hr hq kk
theorem go_rsta {b r v : Nat} (hd : decode cc pc = .ok (.iastore, 1)) (hb : b < 3) (hr : r < 108) (hq : pc + 1 = q) (kk : Go d own cc nL ret q lo st (hp S N (u3 X b (rj r) (ri r) v) Y) Q) : Go d own cc nL ret pc lo (.int (nI v) :: .int (nI r) :: .ref (70 + b) :: st) (hp S N X Y) Q := go_iast hd (by show 70 + b < 80; omega) (hp_xr hb) (by decide) hr hq (by rw [hp_xr_set hb hr]; exact kk)
end RR
theorem rw_set {X : St} {b r v k : Nat} (hr : r < 108) : nI (rowOf (u3 X b (rj r) (ri r) v b) k) = if k = r then nI v else nI (rowOf (X b) k) := by
  have h := congrFun (rowOf_set (M := X b) (v := v) hr) k
  rw [u3_k]
  show nI (rowOf (u2 (X b) (rj r) (ri r) v) k) = _
  refine Eq.trans h.symm ?_
  unfold upd
  rfl
theorem i64 (x : Int32) : (x.toInt64).toInt = x.toInt := Int32.toInt_toInt64 x
theorem ic_lt {M : Mk} {x : Int32} (h : M 13 0 ≤ 12) : ic M x ↔ (¬ x < 0 ∧ ¬ nI (M 13 0) ≤ x) := by
  rw [Int32.lt_iff_toInt_lt, Int32.le_iff_toInt_le, nI_toInt (by omega)]
  have h0 : (0 : Int32).toInt = 0 := by decide
  unfold ic rg
  omega
theorem ow_lt {x : Int32} : rg x 0 3 ↔ (¬ x < 0 ∧ ¬ nI 4 ≤ x) := by
  rw [Int32.lt_iff_toInt_lt, Int32.le_iff_toInt_le, nI_toInt (by omega)]
  have h0 : (0 : Int32).toInt = 0 := by decide
  unfold rg
  omega
