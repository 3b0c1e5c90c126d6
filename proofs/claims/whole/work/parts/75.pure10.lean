/-! a byte by the shift that keeps the sign -/
theorem bv_sar (x : BitVec 32) {s : Nat} (hs : s ≤ 24) : x.sshiftRight s &&& 255#32 = (x >>> s) &&& 255#32 := by
  apply BitVec.eq_of_getLsbD_eq
  intro i hi
  rw [BitVec.getLsbD_and, BitVec.getLsbD_and, BitVec.getLsbD_sshiftRight, BitVec.getLsbD_ushiftRight]
  by_cases h8 : i < 8
  · rw [if_pos (by omega)]
    simp [show ¬ 32 ≤ i by omega]
  · have : (255#32).getLsbD i = false := by
      have h := (by decide : ∀ i, i < 32 → 8 ≤ i → (255#32).getLsbD i = false) i hi (by omega)
      exact h
    rw [this]
    simp
theorem m_byteS (x : Int32) {i : Nat} (hi : i < 4) : (x >>> (nI (8 * i) &&& 31)) &&& nI 255 = nI (ub x i) := by
  apply Int32.toBitVec_inj.mp
  rw [Int32.toBitVec_and, Int32.toBitVec_shiftRight]
  have hs := sh_31 (8 * i) (by omega)
  have e1 : x.toBitVec.sshiftRight' ((nI (8 * i) &&& 31).toBitVec.smod 32) = x.toBitVec.sshiftRight (8 * i) := by
    unfold BitVec.sshiftRight'
    rw [hs]
  have e2 : (nI 255).toBitVec = 255#32 := by decide
  rw [e1, e2, bv_sar _ (by omega)]
  apply BitVec.eq_of_toNat_eq
  have h256 : ub x i < 256 := Nat.mod_lt _ (by decide)
  have e3 : (nI (ub x i)).toBitVec.toNat = ub x i := by
    show (BitVec.ofNat 32 (ub x i)).toNat = ub x i
    rw [BitVec.toNat_ofNat]
    exact Nat.mod_eq_of_lt (by omega)
  rw [e3, BitVec.toNat_and, BitVec.toNat_ushiftRight, Nat.shiftRight_eq_div_pow]
  show x.toBitVec.toNat / 2 ^ (8 * i) &&& (2 ^ 8 - 1) = _
  rw [Nat.and_two_pow_sub_one_eq_mod]
  rfl
