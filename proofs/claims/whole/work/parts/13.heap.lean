/-! THE WORLD as numbers: S, N the class's; X, Y the reference's -/
abbrev St : Type := Nat → Nat → Nat → Nat
def u3 (S : St) (k j i v : Nat) : St := fun a b c => if a = k ∧ b = j ∧ c = i then v else S a b c
def mo (k : Nat) : Nat := 1 + 14 * k
def mr (k j : Nat) : Nat := 2 + 14 * k + j
def mlen (j : Nat) : Nat := if j = 4 then 4 else if 6 ≤ j ∧ j ≤ 10 then 8 else 12
def mfs (k : Nat) (M : Nat → Nat → Nat) : List Value := [.ref (mr k 0), .ref (mr k 1), .ref (mr k 2), .ref (mr k 3), .ref (mr k 4), .ref (mr k 5), .ref (mr k 6), .ref (mr k 7), .ref (mr k 8), .ref (mr k 9), .ref (mr k 10), .ref (mr k 11), .ref (mr k 12), .int (nI (M 13 0)), .int (nI (M 13 1)), .int (nI (M 13 2)), .int (nI (M 13 3))]
/-- the rows value and reach are scratch: they stand apart -/
def mk (k j : Nat) : Nat := if j < 11 then k else 10 + k
def so (t : Nat) : Nat := 60 + 2 * t
def sr (t : Nat) : Nat := 61 + 2 * t
def rj (r : Nat) : Nat := if r < 4 then 13 else if r < 8 then 4 else if r < 20 then 5 else if r < 68 then (r - 20) % 4 else 6 + (r - 68) % 5
def ri (r : Nat) : Nat := if r < 4 then r else if r < 8 then r - 4 else if r < 20 then r - 8 else if r < 68 then (r - 20) / 4 else (r - 68) / 5
def rowOf (M : Nat → Nat → Nat) (r : Nat) : Nat := if r < 108 then M (rj r) (ri r) else 0
def bitI (b : Nat) : Int32 := if b = 0 then -1 else nI b
def cfs (S : St) : List Value := [.ref (mo 0), .ref (mo 1), .ref (mo 2), .ref (mo 3), .ref 57, .ref 59, .ref 68, .int (nI (S 5 1 0))]
def tfs (S : St) : List Value := [.ref 58, .int (nI (S 4 1 0)), .int (nI (S 4 1 1)), .int (nI (S 4 1 2)), .int (nI (S 4 1 3)), .int (nI (S 4 1 4))]
def sfs (S : St) (t : Nat) : List Value := [.ref (sr t), .int (nI (S 6 t 0)), .int (nI (S 6 t 1))]
def xfs (X : St) : List Value := [.ref 70, .ref 71, .ref 72, .int (nI (X 3 4 0)), .ref 73, .ref 74, .int (nI (X 3 4 1)), .ref 75, .ref 76, .ref 77, .ref 78, .ref 79, .int (nI (X 3 4 2)), .int (nI (X 3 4 3)), .int (nI (X 3 4 4)), .int (nI (X 3 4 5))]
def hp (S : St) (N : Nat → Nat → Int64) (X : St) (Y : Nat → Int64) : AH := fun i =>
  if i = 0 then .inr (3, cfs S)
  else if i < 57 then (if (i - 1) % 14 = 0 then .inr (0, mfs ((i - 1) / 14) (S ((i - 1) / 14))) else .inl (0, mlen ((i - 1) % 14 - 1), .inl (fun c => nI (S (mk ((i - 1) / 14) ((i - 1) % 14 - 1)) ((i - 1) % 14 - 1) c))))
  else if i = 57 then .inr (2, tfs S)
  else if i = 58 then .inl (0, 120, .inl (fun c => nI (S 4 0 c)))
  else if i = 59 then .inl (3, 4, .inr (.inr (.inr (.inr (fun t => some (so t))))))
  else if i < 68 then (if i % 2 = 0 then .inr (1, sfs S ((i - 60) / 2)) else .inl (1, 40, .inr (.inl (N ((i - 60) / 2)))))
  else if i = 68 then .inl (0, 7, .inl (fun c => nI (S 5 0 c)))
  else if i = 69 then .inr (4, xfs X)
  else if i < 73 then .inl (0, 108, .inl (fun r => nI (rowOf (X (i - 70)) r)))
  else if i = 73 then .inl (0, 8, .inl (fun c => nI (X 3 0 c)))
  else if i = 74 then .inl (0, 120, .inl (fun c => nI (X 3 1 c)))
  else if i = 75 then .inl (0, 4, .inl (fun c => bitI (X 3 6 c)))
  else if i = 76 then .inl (0, 4, .inl (fun c => nI (X 3 5 c)))
  else if i = 77 then .inl (1, 160, .inr (.inl Y))
  else if i = 78 then .inl (0, 4096, .inl (fun c => nI (X 3 2 c)))
  else if i = 79 then .inl (2, 14, .inl (fun c => nI (X 3 3 c)))
  else .inr (0, [])
section HP
variable {S : St} {N : Nat → Nat → Int64} {X : St} {Y : Nat → Int64}
theorem hp_mo {k : Nat} (hk : k < 4) : hp S N X Y (mo k) = .inr (0, mfs k (S k)) := by
  unfold hp mo
  rw [if_neg (by omega), if_pos (by omega), if_pos (by omega), show (1 + 14 * k - 1) / 14 = k by omega]
theorem hp_mk {k j : Nat} (hk : k < 4) (hj : j < 13) : hp S N X Y (mr k j) = .inl (0, mlen j, .inl (fun c => nI (S (mk k j) j c))) := by
  unfold hp mr
  rw [if_neg (by omega), if_pos (by omega), if_neg (by omega), show (2 + 14 * k + j - 1) / 14 = k by omega, show (2 + 14 * k + j - 1) % 14 - 1 = j by omega]
theorem hp_mr {k j : Nat} (hk : k < 4) (hj : j < 11) : hp S N X Y (mr k j) = .inl (0, mlen j, .inl (fun c => nI (S k j c))) := by
  rw [hp_mk hk (by omega), mk, if_pos hj]
theorem hp_mv {k j : Nat} (hk : k < 4) (hj : 11 ≤ j ∧ j < 13) : hp S N X Y (mr k j) = .inl (0, mlen j, .inl (fun c => nI (S (10 + k) j c))) := by
  rw [hp_mk hk hj.2, mk, if_neg (by omega)]
theorem hp_so {t : Nat} (ht : t < 4) : hp S N X Y (so t) = .inr (1, sfs S t) := by
  unfold hp so
  rw [if_neg (by omega), if_neg (by omega), if_neg (by omega), if_neg (by omega), if_neg (by omega), if_pos (by omega), if_pos (by omega), show (60 + 2 * t - 60) / 2 = t by omega]
theorem hp_sr {t : Nat} (ht : t < 4) : hp S N X Y (sr t) = .inl (1, 40, .inr (.inl (N t))) := by
  unfold hp sr
  rw [if_neg (by omega), if_neg (by omega), if_neg (by omega), if_neg (by omega), if_neg (by omega), if_pos (by omega), if_neg (by omega), show (61 + 2 * t - 60) / 2 = t by omega]
theorem hp_xr {a : Nat} (ha : a < 3) : hp S N X Y (70 + a) = .inl (0, 108, .inl (fun r => nI (rowOf (X a) r))) := by
  unfold hp
  rw [if_neg (by omega), if_neg (by omega), if_neg (by omega), if_neg (by omega), if_neg (by omega), if_neg (by omega), if_neg (by omega), if_neg (by omega), if_pos (by omega), show 70 + a - 70 = a by omega]
theorem hp_0 : hp S N X Y 0 = .inr (3, cfs S) := rfl
theorem hp_57 : hp S N X Y 57 = .inr (2, tfs S) := rfl
theorem hp_58 : hp S N X Y 58 = .inl (0, 120, .inl (fun c => nI (S 4 0 c))) := rfl
theorem hp_59 : hp S N X Y 59 = .inl (3, 4, .inr (.inr (.inr (.inr (fun t => some (so t)))))) := rfl
theorem hp_68 : hp S N X Y 68 = .inl (0, 7, .inl (fun c => nI (S 5 0 c))) := rfl
theorem hp_69 : hp S N X Y 69 = .inr (4, xfs X) := rfl
theorem hp_73 : hp S N X Y 73 = .inl (0, 8, .inl (fun c => nI (X 3 0 c))) := rfl
theorem hp_74 : hp S N X Y 74 = .inl (0, 120, .inl (fun c => nI (X 3 1 c))) := rfl
theorem hp_75 : hp S N X Y 75 = .inl (0, 4, .inl (fun c => bitI (X 3 6 c))) := rfl
theorem hp_76 : hp S N X Y 76 = .inl (0, 4, .inl (fun c => nI (X 3 5 c))) := rfl
theorem hp_77 : hp S N X Y 77 = .inl (1, 160, .inr (.inl Y)) := rfl
theorem hp_78 : hp S N X Y 78 = .inl (0, 4096, .inl (fun c => nI (X 3 2 c))) := rfl
theorem hp_79 : hp S N X Y 79 = .inl (2, 14, .inl (fun c => nI (X 3 3 c))) := rfl
theorem mo_lt {k : Nat} (hk : k < 4) : mo k < nC := by unfold mo nC; omega
theorem mr_lt {k j : Nat} (hk : k < 4) (hj : j < 13) : mr k j < nC := by unfold mr nC; omega
theorem so_lt {t : Nat} (ht : t < 4) : so t < nC := by unfold so nC; omega
theorem sr_lt {t : Nat} (ht : t < 4) : sr t < nC := by unfold sr nC; omega
theorem u3_s (S : St) (k j i v : Nat) : u3 S k j i v k j i = v := by simp [u3]
theorem u3_nk (S : St) {k j i v a b c : Nat} (h : a ≠ k) : u3 S k j i v a b c = S a b c := by simp [u3, h]
theorem u3_nj (S : St) {k j i v a b c : Nat} (h : b ≠ j) : u3 S k j i v a b c = S a b c := by simp [u3, h]
theorem u3_ni (S : St) {k j i v a b c : Nat} (h : c ≠ i) : u3 S k j i v a b c = S a b c := by simp [u3, h]
theorem u3_row (S : St) (k j i v : Nat) : (fun c => nI (u3 S k j i v k j c)) = upd (fun c => nI (S k j c)) i (nI v) := by
  funext c
  by_cases h : c = i
  · simp [u3, upd, h]
  · simp [u3, upd, h]
theorem u3_oth (S : St) {k j i v a : Nat} (h : a ≠ k) : u3 S k j i v a = S a := by
  funext b c
  exact u3_nk S h
theorem u3_othj (S : St) {k j i v a b : Nat} (h : b ≠ j) : u3 S k j i v a b = S a b := by
  funext c
  exact u3_nj S h
theorem mfs_u3 {k j i v a : Nat} (hj : j ≠ 13) : mfs a (u3 S k j i v a) = mfs a (S a) := by
  simp [mfs, u3_othj S (a := a) (fun e => hj e.symm : (13 : Nat) ≠ j)]
theorem tfs_u3 {k j i v : Nat} (h : k ≠ 4 ∨ j ≠ 1) : tfs (u3 S k j i v) = tfs S := by
  have : ∀ c, u3 S k j i v 4 1 c = S 4 1 c := fun c => by rcases h with h | h <;> simp [u3, Ne.symm h]
  simp [tfs, this]
theorem cfs_u3 {k j i v : Nat} (h : k ≠ 5 ∨ j ≠ 1) : cfs (u3 S k j i v) = cfs S := by
  have : u3 S k j i v 5 1 0 = S 5 1 0 := by rcases h with h | h <;> simp [u3, Ne.symm h]
  simp [cfs, this]
theorem sfs_u3 {k j i v t : Nat} (h : k ≠ 6) : sfs (u3 S k j i v) t = sfs S t := by
  simp [sfs, u3_oth S (a := 6) (Ne.symm h)]
theorem xfs_u3 {k j i v : Nat} (h : k ≠ 3 ∨ j ≠ 4) : xfs (u3 X k j i v) = xfs X := by
  have : ∀ c, u3 X k j i v 3 4 c = X 3 4 c := fun c => by rcases h with h | h <;> simp [u3, Ne.symm h]
  simp [xfs, this]
/-- a row of market k -/
theorem hp_mk_set {k j i v : Nat} (hk : k < 4) (hj : j < 13) : hset (hp S N X Y) (mr k j) (.inl (0, mlen j, .inl (upd (fun c => nI (S (mk k j) j c)) i (nI v)))) = hp (u3 S (mk k j) j i v) N X Y := by
  have hm : mk k j < 4 ∨ 10 ≤ mk k j := by unfold mk; split <;> omega
  funext q
  unfold hset
  by_cases hq : q = mr k j
  · rw [if_pos hq, hq, hp_mk hk hj, u3_row]
  · rw [if_neg hq]
    unfold hp
    rw [cfs_u3 (Or.inl (by omega)), tfs_u3 (Or.inl (by omega)), u3_oth S (a := 4) (by omega), u3_oth S (a := 5) (by omega)]
    simp only [sfs_u3 (S := S) (show mk k j ≠ 6 by omega)]
    by_cases h0 : q = 0
    · rw [if_pos h0, if_pos h0]
    rw [if_neg h0, if_neg h0]
    by_cases h1 : q < 57
    · rw [if_pos h1, if_pos h1]
      by_cases h2 : (q - 1) % 14 = 0
      · rw [if_pos h2, if_pos h2, mfs_u3 (by omega)]
      · rw [if_neg h2, if_neg h2]
        have hne : ¬ ((q - 1) / 14 = k ∧ (q - 1) % 14 - 1 = j) := fun e => hq (by unfold mr; omega)
        have hne2 : ¬ (mk ((q - 1) / 14) ((q - 1) % 14 - 1) = mk k j ∧ (q - 1) % 14 - 1 = j) := by
          intro ⟨e1, e2⟩
          rw [e2] at e1
          refine hne ⟨?_, e2⟩
          unfold mk at e1
          split at e1 <;> omega
        have e : (fun c => nI (S (mk ((q - 1) / 14) ((q - 1) % 14 - 1)) ((q - 1) % 14 - 1) c)) = (fun c => nI (u3 S (mk k j) j i v (mk ((q - 1) / 14) ((q - 1) % 14 - 1)) ((q - 1) % 14 - 1) c)) := by
          funext c
          congr 1
          unfold u3
          rw [if_neg (fun z => hne2 ⟨z.1, z.2.1⟩)]
        rw [e]
    · rw [if_neg h1, if_neg h1]
theorem hp_mr_set {k j i v : Nat} (hk : k < 4) (hj : j < 11) : hset (hp S N X Y) (mr k j) (.inl (0, mlen j, .inl (upd (fun c => nI (S k j c)) i (nI v)))) = hp (u3 S k j i v) N X Y := by
  have := hp_mk_set (S := S) (N := N) (X := X) (Y := Y) (i := i) (v := v) hk (show j < 13 by omega)
  rwa [show mk k j = k from if_pos hj] at this
theorem hp_mv_set {k j i v : Nat} (hk : k < 4) (hj : 11 ≤ j ∧ j < 13) : hset (hp S N X Y) (mr k j) (.inl (0, mlen j, .inl (upd (fun c => nI (S (10 + k) j c)) i (nI v)))) = hp (u3 S (10 + k) j i v) N X Y := by
  have := hp_mk_set (S := S) (N := N) (X := X) (Y := Y) (i := i) (v := v) hk hj.2
  rwa [show mk k j = 10 + k from if_neg (by omega)] at this
/-- a number of market k -/
theorem hp_mo_set {k f v : Nat} (hk : k < 4) (hf : f < 4) : hset (hp S N X Y) (mo k) (.inr (0, (mfs k (S k)).set (13 + f) (.int (nI v)))) = hp (u3 S k 13 f v) N X Y := by
  have ef : (mfs k (S k)).set (13 + f) (.int (nI v)) = mfs k (u3 S k 13 f v k) := by
    match f, hf with
    | 0, _ => simp [mfs, u3]
    | 1, _ => simp [mfs, u3]
    | 2, _ => simp [mfs, u3]
    | 3, _ => simp [mfs, u3]
  funext q
  unfold hset
  by_cases hq : q = mo k
  · rw [if_pos hq, hq, hp_mo hk, ef]
  · rw [if_neg hq]
    unfold hp
    rw [cfs_u3 (Or.inl (by omega)), tfs_u3 (Or.inl (by omega)), u3_oth S (a := 4) (by omega), u3_oth S (a := 5) (by omega)]
    simp only [sfs_u3 (S := S) (show k ≠ 6 by omega)]
    by_cases h0 : q = 0
    · rw [if_pos h0, if_pos h0]
    rw [if_neg h0, if_neg h0]
    by_cases h1 : q < 57
    · rw [if_pos h1, if_pos h1]
      by_cases h2 : (q - 1) % 14 = 0
      · rw [if_pos h2, if_pos h2]
        have hne : (q - 1) / 14 ≠ k := fun e => hq (by unfold mo; omega)
        rw [u3_oth S hne]
      · rw [if_neg h2, if_neg h2]
        rw [u3_othj S (a := mk ((q - 1) / 14) ((q - 1) % 14 - 1)) (show (q - 1) % 14 - 1 ≠ 13 by omega)]
    · rw [if_neg h1, if_neg h1]
/-- rows and numbers that stand at one place: the cell is told anew, all others stay -/
theorem hp_at_set {i : Nat} {z : va_E} {S' X' : St} {N' : Nat → Nat → Int64} {Y' : Nat → Int64} (h1 : hp S' N' X' Y' i = z) (h2 : ∀ q, q ≠ i → hp S' N' X' Y' q = hp S N X Y q) : hset (hp S N X Y) i z = hp S' N' X' Y' := by
  funext q
  unfold hset
  by_cases hq : q = i
  · rw [if_pos hq, hq, h1]
  · rw [if_neg hq, h2 q hq]
theorem hp_S_out {k j i v q : Nat} (hk : 4 ≤ k ∧ k < 10) (hq : q ≠ 0 ∧ q ≠ 57 ∧ q ≠ 58 ∧ q ≠ 68) (hs : k ≠ 6 ∨ q ≠ so j) : hp (u3 S k j i v) N X Y q = hp S N X Y q := by
  unfold hp
  rw [if_neg hq.1, if_neg hq.1]
  by_cases h1 : q < 57
  · rw [if_pos h1, if_pos h1, u3_oth S (show (q - 1) / 14 ≠ k by omega), u3_oth S (show mk ((q - 1) / 14) ((q - 1) % 14 - 1) ≠ k by unfold mk; split <;> omega)]
  rw [if_neg h1, if_neg h1, if_neg hq.2.1, if_neg hq.2.1, if_neg hq.2.2.1, if_neg hq.2.2.1]
  by_cases h2 : q = 59
  · rw [if_pos h2, if_pos h2]
  rw [if_neg h2, if_neg h2]
  by_cases h3 : q < 68
  · rw [if_pos h3, if_pos h3]
    by_cases h4 : q % 2 = 0
    · rw [if_pos h4, if_pos h4]
      have e : sfs (u3 S k j i v) ((q - 60) / 2) = sfs S ((q - 60) / 2) := by
        rcases hs with h | h
        · exact sfs_u3 h
        · have hne : (q - 60) / 2 ≠ j := fun e => h (by unfold so; omega)
          simp [sfs, u3_othj S hne]
      rw [e]
    · rw [if_neg h4, if_neg h4]
  rw [if_neg h3, if_neg h3, if_neg hq.2.2.2, if_neg hq.2.2.2]
theorem hp_tape_set {i v : Nat} : hset (hp S N X Y) 58 (.inl (0, 120, .inl (upd (fun c => nI (S 4 0 c)) i (nI v)))) = hp (u3 S 4 0 i v) N X Y := by
  refine hp_at_set ?_ (fun q hq => ?_)
  · rw [← u3_row]; rfl
  · by_cases h : q = 0 ∨ q = 57 ∨ q = 68
    · rcases h with h | h | h <;> subst h
      · show (Sum.inr (3, cfs _) : va_E) = _; rw [cfs_u3 (by omega)]; rfl
      · show (Sum.inr (2, tfs _) : va_E) = _; rw [tfs_u3 (by omega)]; rfl
      · show (Sum.inl (0, 7, .inl fun c => nI (u3 S 4 0 i v 5 0 c)) : va_E) = _; rw [u3_oth S (by omega)]; rfl
    · exact hp_S_out (by omega) (by omega) (by omega)
theorem hp_told_set {i v : Nat} : hset (hp S N X Y) 68 (.inl (0, 7, .inl (upd (fun c => nI (S 5 0 c)) i (nI v)))) = hp (u3 S 5 0 i v) N X Y := by
  refine hp_at_set ?_ (fun q hq => ?_)
  · rw [← u3_row]; rfl
  · by_cases h : q = 0 ∨ q = 57 ∨ q = 58
    · rcases h with h | h | h <;> subst h
      · show (Sum.inr (3, cfs _) : va_E) = _; rw [cfs_u3 (by omega)]; rfl
      · show (Sum.inr (2, tfs _) : va_E) = _; rw [tfs_u3 (by omega)]; rfl
      · show (Sum.inl (0, 120, .inl fun c => nI (u3 S 5 0 i v 4 0 c)) : va_E) = _; rw [u3_oth S (by omega)]; rfl
    · exact hp_S_out (by omega) (by omega) (by omega)
theorem hp_tf_set {f v : Nat} (hf : f < 5) : hset (hp S N X Y) 57 (.inr (2, (tfs S).set (1 + f) (.int (nI v)))) = hp (u3 S 4 1 f v) N X Y := by
  refine hp_at_set ?_ (fun q hq => ?_)
  · show (Sum.inr (2, tfs _) : va_E) = _
    match f, hf with
    | 0, _ => simp [tfs, u3]
    | 1, _ => simp [tfs, u3]
    | 2, _ => simp [tfs, u3]
    | 3, _ => simp [tfs, u3]
    | 4, _ => simp [tfs, u3]
  · by_cases h : q = 0 ∨ q = 58 ∨ q = 68
    · rcases h with h | h | h <;> subst h
      · show (Sum.inr (3, cfs _) : va_E) = _; rw [cfs_u3 (by omega)]; rfl
      · show (Sum.inl (0, 120, .inl fun c => nI (u3 S 4 1 f v 4 0 c)) : va_E) = _; rw [u3_othj S (by omega)]; rfl
      · show (Sum.inl (0, 7, .inl fun c => nI (u3 S 4 1 f v 5 0 c)) : va_E) = _; rw [u3_oth S (by omega)]; rfl
    · exact hp_S_out (by omega) (by omega) (by omega)
theorem hp_isKept_set {v : Nat} : hset (hp S N X Y) 0 (.inr (3, (cfs S).set 7 (.int (nI v)))) = hp (u3 S 5 1 0 v) N X Y := by
  refine hp_at_set ?_ (fun q hq => ?_)
  · show (Sum.inr (3, cfs _) : va_E) = _
    simp [cfs, u3]
  · by_cases h : q = 57 ∨ q = 58 ∨ q = 68
    · rcases h with h | h | h <;> subst h
      · show (Sum.inr (2, tfs _) : va_E) = _; rw [tfs_u3 (by omega)]; rfl
      · show (Sum.inl (0, 120, .inl fun c => nI (u3 S 5 1 0 v 4 0 c)) : va_E) = _; rw [u3_oth S (by omega)]; rfl
      · show (Sum.inl (0, 7, .inl fun c => nI (u3 S 5 1 0 v 5 0 c)) : va_E) = _; rw [u3_othj S (by omega)]; rfl
    · exact hp_S_out (by omega) (by omega) (by omega)
theorem hp_so_set {t f v : Nat} (ht : t < 4) (hf : f < 2) : hset (hp S N X Y) (so t) (.inr (1, (sfs S t).set (1 + f) (.int (nI v)))) = hp (u3 S 6 t f v) N X Y := by
  refine hp_at_set ?_ (fun q hq => ?_)
  · rw [hp_so ht]
    match f, hf with
    | 0, _ => simp [sfs, u3]
    | 1, _ => simp [sfs, u3]
  · by_cases h : q = 0 ∨ q = 57 ∨ q = 58 ∨ q = 68
    · rcases h with h | h | h | h <;> subst h
      · show (Sum.inr (3, cfs _) : va_E) = _; rw [cfs_u3 (by omega)]; rfl
      · show (Sum.inr (2, tfs _) : va_E) = _; rw [tfs_u3 (by omega)]; rfl
      · show (Sum.inl (0, 120, .inl fun c => nI (u3 S 6 t f v 4 0 c)) : va_E) = _; rw [u3_oth S (by omega)]; rfl
      · show (Sum.inl (0, 7, .inl fun c => nI (u3 S 6 t f v 5 0 c)) : va_E) = _; rw [u3_oth S (by omega)]; rfl
    · exact hp_S_out (by omega) (by omega) (Or.inr hq)
def uN2 (N : Nat → Nat → Int64) (t i : Nat) (v : Int64) : Nat → Nat → Int64 := fun a b => if a = t ∧ b = i then v else N a b
theorem hp_sr_set {t i : Nat} {v : Int64} (ht : t < 4) : hset (hp S N X Y) (sr t) (.inl (1, 40, .inr (.inl (vp_updL (N t) i v)))) = hp S (uN2 N t i v) X Y := by
  refine hp_at_set ?_ (fun q hq => ?_)
  · rw [hp_sr ht]
    congr 5
    funext c
    by_cases hc : c = i <;> simp [uN2, vp_updL, hc]
  · unfold hp
    by_cases h3 : 59 < q ∧ q < 68 ∧ ¬ q % 2 = 0
    · have hne : ¬ (q - 60) / 2 = t := fun e => hq (by unfold sr; omega)
      have e : uN2 N t i v ((q - 60) / 2) = N ((q - 60) / 2) := by
        funext c
        simp [uN2, hne]
      rw [e]
    · by_cases h4 : q < 68
      · by_cases h5 : q % 2 = 0
        · rw [if_pos h5, if_pos h5]
        · have : q ≤ 59 := by omega
          by_cases h6 : q < 57
          · rw [if_pos h6, if_pos h6]
          · rw [if_neg h6, if_neg h6]
            by_cases h7 : q = 57
            · rw [if_pos h7, if_pos h7]
            · rw [if_neg h7, if_neg h7, if_pos (show q = 59 by omega), if_pos (show q = 59 by omega)]
      · rw [if_neg h4, if_neg h4]
/-! the reference's -/
def rx (j i : Nat) : Nat := if j = 13 then i else if j = 4 then 4 + i else if j = 5 then 8 + i else if j < 4 then 20 + 4 * i + j else 68 + 5 * i + (j - 6)
theorem rx_inv {r : Nat} (h : r < 108) : rx (rj r) (ri r) = r := by
  by_cases h1 : r < 4
  · simp only [rj, ri, if_pos h1, rx, if_true]
  by_cases h2 : r < 8
  · simp only [rj, ri, if_neg h1, if_pos h2, rx, if_true]
    rw [if_neg (by omega)]; omega
  by_cases h3 : r < 20
  · simp only [rj, ri, if_neg h1, if_neg h2, if_pos h3, rx, if_true]
    rw [if_neg (by omega), if_neg (by omega)]; omega
  by_cases h4 : r < 68
  · simp only [rj, ri, if_neg h1, if_neg h2, if_neg h3, if_pos h4, rx]
    rw [if_neg (by omega), if_neg (by omega), if_neg (by omega), if_pos (by omega)]; omega
  · simp only [rj, ri, if_neg h1, if_neg h2, if_neg h3, if_neg h4, rx]
    rw [if_neg (by omega), if_neg (by omega), if_neg (by omega), if_neg (by omega)]; omega
theorem rowOf_set {M : Nat → Nat → Nat} {r v : Nat} (hr : r < 108) : upd (fun k => nI (rowOf M k)) r (nI v) = fun k => nI (rowOf (fun b c => if b = rj r ∧ c = ri r then v else M b c) k) := by
  funext k
  unfold upd rowOf
  by_cases hk : k = r
  · subst hk
    simp [hr]
  · rw [if_neg hk]
    by_cases h1 : k < 108
    · simp only [if_pos h1]
      congr 1
      have : ¬ (rj k = rj r ∧ ri k = ri r) := by
        intro ⟨e1, e2⟩
        apply hk
        rw [← rx_inv h1, ← rx_inv hr, e1, e2]
      simp only [if_neg this]
    · simp only [if_neg h1]
theorem hp_X_out {k j i v q : Nat} (hq : q ≠ 69 ∧ q ≠ 73 ∧ q ≠ 74 ∧ q ≠ 75 ∧ q ≠ 76 ∧ q ≠ 78 ∧ q ≠ 79) (hs : 3 ≤ k ∨ q ≠ 70 + k) : hp S N (u3 X k j i v) Y q = hp S N X Y q := by
  unfold hp
  rw [if_neg hq.1, if_neg hq.1, if_neg hq.2.1, if_neg hq.2.1, if_neg hq.2.2.1, if_neg hq.2.2.1, if_neg hq.2.2.2.1, if_neg hq.2.2.2.1, if_neg hq.2.2.2.2.1, if_neg hq.2.2.2.2.1, if_neg hq.2.2.2.2.2.1, if_neg hq.2.2.2.2.2.1, if_neg hq.2.2.2.2.2.2, if_neg hq.2.2.2.2.2.2]
  by_cases h : 70 ≤ q ∧ q < 73
  · rw [u3_oth X (show q - 70 ≠ k by omega)]
  · by_cases h2 : q < 73
    · by_cases h3 : q < 68
      · rw [if_pos h3, if_pos h3]
      · have : q = 68 := by omega
        rw [if_pos this, if_pos this]
    · rw [if_neg h2, if_neg h2]
theorem hp_xr_set {a r v : Nat} (ha : a < 3) (hr : r < 108) : hset (hp S N X Y) (70 + a) (.inl (0, 108, .inl (upd (fun k => nI (rowOf (X a) k)) r (nI v)))) = hp S N (u3 X a (rj r) (ri r) v) Y := by
  refine hp_at_set ?_ (fun q hq => ?_)
  · rw [hp_xr ha, rowOf_set hr]
    congr 5
    funext k
    congr 2
    funext b c
    simp [u3]
  · by_cases h : q = 69 ∨ q = 73 ∨ q = 74 ∨ q = 75 ∨ q = 76 ∨ q = 78 ∨ q = 79
    · rcases h with h | h | h | h | h | h | h <;> subst h
      · show (Sum.inr (4, xfs _) : va_E) = _; rw [xfs_u3 (by omega)]; rfl
      · rw [hp_73, hp_73, u3_oth X (show (3 : Nat) ≠ a by omega)]
      · rw [hp_74, hp_74, u3_oth X (show (3 : Nat) ≠ a by omega)]
      · rw [hp_75, hp_75, u3_oth X (show (3 : Nat) ≠ a by omega)]
      · rw [hp_76, hp_76, u3_oth X (show (3 : Nat) ≠ a by omega)]
      · rw [hp_78, hp_78, u3_oth X (show (3 : Nat) ≠ a by omega)]
      · rw [hp_79, hp_79, u3_oth X (show (3 : Nat) ≠ a by omega)]
    · exact hp_X_out (by omega) (Or.inr hq)
theorem hp_x3_set {j v i q : Nat} {z : va_E} (hq : (j = 0 ∧ q = 73) ∨ (j = 1 ∧ q = 74) ∨ (j = 2 ∧ q = 78) ∨ (j = 5 ∧ q = 76) ∨ (j = 3 ∧ q = 79) ∨ (j = 6 ∧ q = 75)) (hz : hp S N (u3 X 3 j i v) Y q = z) : hset (hp S N X Y) q z = hp S N (u3 X 3 j i v) Y := by
  refine hp_at_set hz (fun r hr => ?_)
  by_cases h : r = 69 ∨ r = 73 ∨ r = 74 ∨ r = 75 ∨ r = 76 ∨ r = 78 ∨ r = 79
  · rcases h with h | h | h | h | h | h | h <;> subst h
    · show (Sum.inr (4, xfs _) : va_E) = _; rw [xfs_u3 (by omega)]; rfl
    · rw [hp_73, hp_73, u3_othj X (show (0 : Nat) ≠ j by omega)]
    · rw [hp_74, hp_74, u3_othj X (show (1 : Nat) ≠ j by omega)]
    · rw [hp_75, hp_75, u3_othj X (show (6 : Nat) ≠ j by omega)]
    · rw [hp_76, hp_76, u3_othj X (show (5 : Nat) ≠ j by omega)]
    · rw [hp_78, hp_78, u3_othj X (show (2 : Nat) ≠ j by omega)]
    · rw [hp_79, hp_79, u3_othj X (show (3 : Nat) ≠ j by omega)]
  · exact hp_X_out (by omega) (Or.inl (by omega))
theorem hp_xf_set {f k v : Nat} (hf : (f = 0 ∧ k = 3) ∨ (f = 1 ∧ k = 6) ∨ (f = 2 ∧ k = 12) ∨ (f = 3 ∧ k = 13) ∨ (f = 4 ∧ k = 14) ∨ (f = 5 ∧ k = 15)) : hset (hp S N X Y) 69 (.inr (4, (xfs X).set k (.int (nI v)))) = hp S N (u3 X 3 4 f v) Y := by
  refine hp_at_set ?_ (fun r hr => ?_)
  · show (Sum.inr (4, xfs _) : va_E) = _
    rcases hf with ⟨rfl, rfl⟩ | ⟨rfl, rfl⟩ | ⟨rfl, rfl⟩ | ⟨rfl, rfl⟩ | ⟨rfl, rfl⟩ | ⟨rfl, rfl⟩ <;> simp [xfs, u3]
  · by_cases h : r = 73 ∨ r = 74 ∨ r = 75 ∨ r = 76 ∨ r = 78 ∨ r = 79
    · rcases h with h | h | h | h | h | h <;> subst h
      · rw [hp_73, hp_73, u3_othj X (show (0 : Nat) ≠ 4 by omega)]
      · rw [hp_74, hp_74, u3_othj X (show (1 : Nat) ≠ 4 by omega)]
      · rw [hp_75, hp_75, u3_othj X (show (6 : Nat) ≠ 4 by omega)]
      · rw [hp_76, hp_76, u3_othj X (show (5 : Nat) ≠ 4 by omega)]
      · rw [hp_78, hp_78, u3_othj X (show (2 : Nat) ≠ 4 by omega)]
      · rw [hp_79, hp_79, u3_othj X (show (3 : Nat) ≠ 4 by omega)]
    · exact hp_X_out (by omega) (Or.inl (by omega))
def uL (Y : Nat → Int64) (i : Nat) (v : Int64) : Nat → Int64 := vp_updL Y i v
theorem hp_y_set {i : Nat} {v : Int64} : hset (hp S N X Y) 77 (.inl (1, 160, .inr (.inl (vp_updL Y i v)))) = hp S N X (vp_updL Y i v) := by
  refine hp_at_set rfl (fun q hq => ?_)
  unfold hp
  rw [if_neg hq, if_neg hq]
end HP
