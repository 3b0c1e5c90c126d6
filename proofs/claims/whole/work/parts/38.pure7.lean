/-! sheets and tape as numbers -/
def zN (N : Nat → Nat → Int64) (t n : Nat) : Nat → Nat → Int64 := fun a i => if a = t ∧ i < n then 0 else N a i
theorem zN_0 (N : Nat → Nat → Int64) (t : Nat) : zN N t 0 = N := by funext a i; simp [zN]
theorem zN_s (N : Nat → Nat → Int64) (t n : Nat) : uN2 (zN N t n) t n 0 = zN N t (n + 1) := by
  funext a i
  unfold uN2 zN
  by_cases h1 : a = t
  · by_cases h2 : i = n
    · simp [h1, h2]
    · have : i < n + 1 ↔ i < n := by omega
      simp [h1, h2, this]
  · simp [h1]
def lowB (b : Nat) (v : Int64) : Int64 := if b = 8 then v.toInt32.toInt8.toInt32.toInt64 else if b = 16 then v.toInt32.toInt16.toInt32.toInt64 else v
def okB (b : Nat) : Prop := b = 0 ∨ b = 8 ∨ b = 16 ∨ b = 64
abbrev hrn (L : Nat) (f n : Int32) : Prop := 0 ≤ f.toInt ∧ 0 ≤ n.toInt ∧ f.toInt + n.toInt ≤ L
theorem sub_len {L : Nat} {n : Int32} (hL : L ≤ 40) (hn : 0 ≤ n.toInt) : (nI L - n).toInt = (L : Int) - n.toInt := by
  have h0 : ¬ n < 0 := by
    rw [Int32.lt_iff_toInt_lt]
    have : (0 : Int32).toInt = 0 := by decide
    omega
  obtain ⟨j, hj, rfl⟩ := nI_of h0
  rw [Int32.toInt_sub, nI_toInt (by omega), nI_toInt hj]
  exact Int.bmod_eq_of_le (by omega) (by omega)
def ub (x : Int32) (i : Nat) : Nat := x.toBitVec.toNat / 2 ^ (8 * i) % 256
theorem sh_u31 : ∀ n, n < 32 → (((nI n).toUInt32 &&& Int32.toUInt32 31).toBitVec % 32).toNat = n := by decide +kernel
theorem m_byte (x : Int32) {i : Nat} (hi : i < 4) : (x.toUInt32 >>> ((nI (8 * i)).toUInt32 &&& Int32.toUInt32 31)).toInt32 &&& nI 255 = nI (ub x i) := by
  have h := pk_ushr x (nI (8 * i)) (8 * i) (sh_u31 (8 * i) (by omega))
  rw [pk_and _ 8 (by decide), h]
  rfl
def fdP (T : Mk) (x : Int32) (n m : Nat) : Mk := fun j c => if j = 0 ∧ T 1 0 ≤ c ∧ c < T 1 0 + m then ub x (n - 1 - (c - T 1 0)) else if j = 1 ∧ c = 0 then T 1 0 + m else T j c
theorem fdP_0 (T : Mk) (x : Int32) (n : Nat) : fdP T x n 0 = T := by
  funext j c
  unfold fdP
  rw [if_neg (by omega)]
  split
  next h => rw [h.1, h.2, Nat.add_zero]
  next => rfl
theorem fdP_s (T : Mk) (x : Int32) (n m : Nat) : u2 (u2 (fdP T x n m) 0 (T 1 0 + m) (ub x (n - 1 - m))) 1 0 (T 1 0 + m + 1) = fdP T x n (m + 1) := by
  funext j c
  unfold u2 fdP
  by_cases h1 : j = 1 ∧ c = 0
  · rw [if_pos h1, if_neg (by omega), if_pos h1]; omega
  · rw [if_neg h1]
    by_cases h2 : j = 0 ∧ c = T 1 0 + m
    · rw [if_pos h2, if_pos (by omega), h2.2]
      congr 2
      omega
    · rw [if_neg h2]
      by_cases h3 : j = 0 ∧ T 1 0 ≤ c ∧ c < T 1 0 + m
      · rw [if_pos h3, if_pos (by omega)]
      · rw [if_neg h3, if_neg h1, if_neg h1, if_neg (by omega)]
theorem nI_m1 (r : Nat) : nI r + Int32.ofInt (-1) = nI r - nI 1 := by
  rw [Int32.sub_eq_add_neg]
  rfl
/-! prices out of a sheet -/
abbrev isP (v : Int64) : Prop := 0 ≤ v.toInt ∧ v.toInt ≤ 99
def layM (M : Mk) (f : Nat → Int64) (n : Nat) : Mk := fun j i => if j = 5 ∧ i < n ∧ isP (f i) then (f i).toInt.toNat else M j i
def layN (f : Nat → Int64) (n : Nat) : Nat := sm (fun i => if isP (f i) then 1 else 0) n
theorem layM_0 (M : Mk) (f : Nat → Int64) : layM M f 0 = M := by funext j i; simp [layM]
theorem layM_no {M : Mk} {f : Nat → Int64} {n : Nat} (h : ¬ isP (f n)) : layM M f (n + 1) = layM M f n := by
  funext j i
  unfold layM
  by_cases hi : i = n
  · rw [if_neg (fun z => h (hi ▸ z.2.2)), if_neg (by omega)]
  · have : i < n + 1 ↔ i < n := by omega
    simp [this]
theorem layM_yes {M : Mk} {f : Nat → Int64} {n : Nat} (h : isP (f n)) : layM M f (n + 1) = u2 (layM M f n) 5 n (f n).toInt.toNat := by
  funext j i
  unfold layM u2
  by_cases hi : i = n
  · subst hi
    by_cases hj : j = 5
    · rw [if_pos ⟨hj, by omega, h⟩, if_pos ⟨hj, rfl⟩]
    · simp [hj]
  · have e : i < n + 1 ↔ i < n := by omega
    simp only [e]
    rw [if_neg (c := j = 5 ∧ i = n) (fun z => hi z.2)]
theorem wf_layM {M : Mk} (h : WF M) (f : Nat → Int64) (n : Nat) : WF (layM M f n) := by
  induction n with
  | zero => rw [layM_0]; exact h
  | succ n ih =>
    by_cases hp : isP (f n)
    · rw [layM_yes hp]
      refine ih.upd ?_
      omega
    · rw [layM_no hp]; exact ih
theorem l2i_p {v : Int64} (h : isP v) : v.toInt32 = nI v.toInt.toNat := by
  have h0 : ¬ v < 0 := by
    rw [Int64.lt_iff_toInt_lt]
    have : (0 : Int64).toInt = 0 := by decide
    omega
  obtain ⟨j, hj, rfl⟩ := pk_lOf h0
  rw [lN_i, pk_lT hj]
  rfl
/-! a book -/
def bkN (N : Nat → Nat → Int64) (t b : Nat) (f : Nat → Nat) (n : Nat) : Nat → Nat → Int64 := fun a i => if a = t ∧ i < n then lowB b (nI (f i)).toInt64 else N a i
theorem bkN_0 (N : Nat → Nat → Int64) (t b : Nat) (f : Nat → Nat) : bkN N t b f 0 = N := by funext a i; simp [bkN]
theorem bkN_s (N : Nat → Nat → Int64) (t b : Nat) (f : Nat → Nat) (n : Nat) : uN2 (bkN N t b f n) t n (lowB b (nI (f n)).toInt64) = bkN N t b f (n + 1) := by
  funext a i
  unfold uN2 bkN
  by_cases h1 : a = t
  · by_cases h2 : i = n
    · simp [h1, h2]
    · have : i < n + 1 ↔ i < n := by omega
      simp [h1, h2, this]
  · simp [h1]
