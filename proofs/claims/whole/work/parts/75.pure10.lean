/-! a byte by the shift that keeps the sign -/
theorem bv_sar (x : BitVec 32) {s : Nat} (hs : s ≤ 24) : x.sshiftRight s &&& 255#32 = (x >>> s) &&& 255#32 := by
  apply BitVec.eq_of_getLsbD_eq
  intro i hi
  rw [BitVec.getLsbD_and, BitVec.getLsbD_and, BitVec.getLsbD_sshiftRight, BitVec.getLsbD_ushiftRight]
  by_cases h8 : i < 8
  · rw [if_pos (by omega)]
    simp [show ¬ 32 ≤ i by omega]
  · have : (255#32).getLsbD i = false := by
      have h := (by decide : ∀ i, i < 32 → 8 ≤ i → (255#32).getLsbD i = false) i hi (by omega)
      exact h
    rw [this]
    simp
