set_option maxHeartbeats 4000000 in
set_option maxRecDepth 100000 in
theorem c_addCoin {S : St} {N : Nat → Nat → Int64} {X : St} {Y : Nat → Int64} {Q : Option Value → AH → Prop} {k a b c s : Nat} (hk : k < 4) (hc : S k 13 0 < 12) (hQ : ∀ S', Ch S S' k (addC (S k) a b c s) → Q (some (.int (nI (S k 13 0)))) (hp S' N X Y)) : Cn 1 yX0_addCoin cX0_addCoin 6 (some .int) [.ref (mo k), .int (nI a), .int (nI b), .int (nI c), .int (nI s)] (hp S N X Y) Q := by
  refine cn_of (own := RX0) (lo := [some (.ref (mo k)), some (.int (nI a)), some (.int (nI b)), some (.int (nI c)), some (.int (nI s)), none]) 1 rfl (by decide +kernel) rfl (Nat.le_of_ble_eq_true rfl) ?_
  refine go_aloadn0 (q := 1) dX0_addCoin_0 rfl ?_
  refine go_mg (q := 4) dX0_addCoin_1 fl_X0_51 hk rfl rfl ?_
  refine go_istore5 (q := 6) dX0_addCoin_4 rfl (by decide) rfl ?_
  refine go_iload5 (q := 8) dX0_addCoin_6 rfl ?_
  refine go_bipushN (v := 12) (q := 10) dX0_addCoin_8 (by decide) rfl ?_
  refine go_icmp_ltN (tgt := 15) (q := 13) dX0_addCoin_10 (by decide) rfl (by omega) (by omega) (fun h1 => ?_) (fun h1 => ?_)
  · skip
    refine go_aloadn0 (q := 16) dX0_addCoin_15 rfl ?_
    refine go_mg (q := 19) dX0_addCoin_16 fl_X0_9 hk rfl rfl ?_
    refine go_iload5 (q := 21) dX0_addCoin_19 rfl ?_
    refine go_iloadn1 (q := 22) dX0_addCoin_21 rfl ?_
    refine go_mst (q := 23) dX0_addCoin_22 hk (by decide) hc rfl ?_
    refine go_aloadn0 (q := 24) dX0_addCoin_23 rfl ?_
    refine go_mg (q := 27) dX0_addCoin_24 fl_X0_15 hk rfl rfl ?_
    refine go_iload5 (q := 29) dX0_addCoin_27 rfl ?_
    refine go_iloadn2 (q := 30) dX0_addCoin_29 rfl ?_
    refine go_mst (q := 31) dX0_addCoin_30 hk (by decide) hc rfl ?_
    refine go_aloadn0 (q := 32) dX0_addCoin_31 rfl ?_
    refine go_mg (q := 35) dX0_addCoin_32 fl_X0_18 hk rfl rfl ?_
    refine go_iload5 (q := 37) dX0_addCoin_35 rfl ?_
    refine go_iloadn3 (q := 38) dX0_addCoin_37 rfl ?_
    refine go_mst (q := 39) dX0_addCoin_38 hk (by decide) hc rfl ?_
    refine go_aloadn0 (q := 40) dX0_addCoin_39 rfl ?_
    refine go_mg (q := 43) dX0_addCoin_40 fl_X0_21 hk rfl rfl ?_
    refine go_iload5 (q := 45) dX0_addCoin_43 rfl ?_
    refine go_iload4 (q := 47) dX0_addCoin_45 rfl ?_
    refine go_mst (q := 48) dX0_addCoin_47 hk (by decide) hc rfl ?_
    refine go_aloadn0 (q := 49) dX0_addCoin_48 rfl ?_
    refine go_dup (q := 50) dX0_addCoin_49 rfl rfl ?_
    refine go_mg (q := 53) dX0_addCoin_50 fl_X0_51 hk rfl rfl ?_
    refine go_iconstN (n := 1) (q := 54) dX0_addCoin_53 rfl ?_
    refine go_iaddN (q := 55) dX0_addCoin_54 rfl ?_
    refine go_mpf (f := 0) (q := 58) dX0_addCoin_55 fp_X0_51 hk (by decide) rfl ?_
    refine go_iload5 (q := 60) dX0_addCoin_58 rfl ?_
    exact go_iret dX0_addCoin_60 rfl (hQ _ (Ch.to (((((Ch.rf.u 0 _ a).u 1 _ b).u 2 _ c).u 3 _ s).u 13 0 _) (by simp [addC, u3])))
  · skip
    exact absurd hc h1

set_option maxHeartbeats 4000000 in
set_option maxRecDepth 100000 in
theorem c_addLoan {S : St} {N : Nat → Nat → Int64} {X : St} {Y : Nat → Int64} {Q : Option Value → AH → Prop} {k a b c s : Nat} (hk : k < 4) (hc : S k 13 1 < 8) (hQ : ∀ S', Ch S S' k (addL (S k) a b c s) → Q (some (.int (nI (S k 13 1)))) (hp S' N X Y)) : Cn 1 yX0_addLoan cX0_addLoan 6 (some .int) [.ref (mo k), .int (nI a), .int (nI b), .int (nI c), .int (nI s)] (hp S N X Y) Q := by
  refine cn_of (own := RX0) (lo := [some (.ref (mo k)), some (.int (nI a)), some (.int (nI b)), some (.int (nI c)), some (.int (nI s)), none]) 1 rfl (by decide +kernel) rfl (Nat.le_of_ble_eq_true rfl) ?_
  refine go_aloadn0 (q := 1) dX0_addLoan_0 rfl ?_
  refine go_mg (q := 4) dX0_addLoan_1 fl_X0_55 hk rfl rfl ?_
  refine go_istore5 (q := 6) dX0_addLoan_4 rfl (by decide) rfl ?_
  refine go_iload5 (q := 8) dX0_addLoan_6 rfl ?_
  refine go_bipushN (v := 8) (q := 10) dX0_addLoan_8 (by decide) rfl ?_
  refine go_icmp_ltN (tgt := 15) (q := 13) dX0_addLoan_10 (by decide) rfl (by omega) (by omega) (fun h1 => ?_) (fun h1 => ?_)
  · skip
    refine go_aloadn0 (q := 16) dX0_addLoan_15 rfl ?_
    refine go_mg (q := 19) dX0_addLoan_16 fl_X0_30 hk rfl rfl ?_
    refine go_iload5 (q := 21) dX0_addLoan_19 rfl ?_
    refine go_iloadn1 (q := 22) dX0_addLoan_21 rfl ?_
    refine go_mst (q := 23) dX0_addLoan_22 hk (by decide) hc rfl ?_
    refine go_aloadn0 (q := 24) dX0_addLoan_23 rfl ?_
    refine go_mg (q := 27) dX0_addLoan_24 fl_X0_33 hk rfl rfl ?_
    refine go_iload5 (q := 29) dX0_addLoan_27 rfl ?_
    refine go_iloadn2 (q := 30) dX0_addLoan_29 rfl ?_
    refine go_mst (q := 31) dX0_addLoan_30 hk (by decide) hc rfl ?_
    refine go_aloadn0 (q := 32) dX0_addLoan_31 rfl ?_
    refine go_mg (q := 35) dX0_addLoan_32 fl_X0_36 hk rfl rfl ?_
    refine go_iload5 (q := 37) dX0_addLoan_35 rfl ?_
    refine go_iloadn3 (q := 38) dX0_addLoan_37 rfl ?_
    refine go_mst (q := 39) dX0_addLoan_38 hk (by decide) hc rfl ?_
    refine go_aloadn0 (q := 40) dX0_addLoan_39 rfl ?_
    refine go_mg (q := 43) dX0_addLoan_40 fl_X0_39 hk rfl rfl ?_
    refine go_iload5 (q := 45) dX0_addLoan_43 rfl ?_
    refine go_aloadn0 (q := 46) dX0_addLoan_45 rfl ?_
    refine go_mg (q := 49) dX0_addLoan_46 fl_X0_58 hk rfl rfl ?_
    refine go_iload4 (q := 51) dX0_addLoan_49 rfl ?_
    refine go_iaddN (q := 52) dX0_addLoan_51 rfl ?_
    refine go_mst (q := 53) dX0_addLoan_52 hk (by decide) hc rfl ?_
    refine go_aloadn0 (q := 54) dX0_addLoan_53 rfl ?_
    refine go_mg (q := 57) dX0_addLoan_54 fl_X0_42 hk rfl rfl ?_
    refine go_iload5 (q := 59) dX0_addLoan_57 rfl ?_
    refine go_iconstN (n := 0) (q := 60) dX0_addLoan_59 rfl ?_
    refine go_mst (q := 61) dX0_addLoan_60 hk (by decide) hc rfl ?_
    refine go_aloadn0 (q := 62) dX0_addLoan_61 rfl ?_
    refine go_dup (q := 63) dX0_addLoan_62 rfl rfl ?_
    refine go_mg (q := 66) dX0_addLoan_63 fl_X0_55 hk rfl rfl ?_
    refine go_iconstN (n := 1) (q := 67) dX0_addLoan_66 rfl ?_
    refine go_iaddN (q := 68) dX0_addLoan_67 rfl ?_
    refine go_mpf (f := 1) (q := 71) dX0_addLoan_68 fp_X0_55 hk (by decide) rfl ?_
    refine go_iload5 (q := 73) dX0_addLoan_71 rfl ?_
    exact go_iret dX0_addLoan_73 rfl (hQ _ (Ch.to ((((((Ch.rf.u 6 _ a).u 7 _ b).u 8 _ c).u 9 _ _).u 10 _ 0).u 13 1 _) (by simp [addL, u3])))
  · skip
    exact absurd hc h1

set_option maxHeartbeats 4000000 in
set_option maxRecDepth 100000 in
theorem c_exchIn {S : St} {N : Nat → Nat → Int64} {X : St} {Y : Nat → Int64} {Q : Option Value → AH → Prop} {k j a b : Nat} (hk : k < 4) (hj : j < 4) (ha : a < 12) (hb : b < 12) (hQ : ∀ S', Ch S S' k (swp1 (S k) j a b) → Q none (hp S' N X Y)) : Cn 1 yX0_exchangeIn cX0_exchangeIn 4 none [.ref (mr k j), .int (nI a), .int (nI b)] (hp S N X Y) Q := by
  have hj1 : j < 11 := by omega
  have hm : mlen j = 12 := by unfold mlen; rw [if_neg (by omega), if_neg (by omega)]
  have hA : a < mlen j := by omega
  have hB : b < mlen j := by omega
  refine cn_of (own := RX0) (lo := [some (.ref (mr k j)), some (.int (nI a)), some (.int (nI b)), none]) 1 rfl (by decide +kernel) rfl (Nat.le_of_ble_eq_true rfl) ?_
  refine go_aloadn0 (q := 1) dX0_exchangeIn_0 rfl ?_
  refine go_iloadn1 (q := 2) dX0_exchangeIn_1 rfl ?_
  refine go_mld (q := 3) dX0_exchangeIn_2 hk hj1 hA rfl ?_
  refine go_istoren3 (q := 4) dX0_exchangeIn_3 rfl (by decide) rfl ?_
  refine go_aloadn0 (q := 5) dX0_exchangeIn_4 rfl ?_
  refine go_iloadn1 (q := 6) dX0_exchangeIn_5 rfl ?_
  refine go_aloadn0 (q := 7) dX0_exchangeIn_6 rfl ?_
  refine go_iloadn2 (q := 8) dX0_exchangeIn_7 rfl ?_
  refine go_mld (q := 9) dX0_exchangeIn_8 hk hj1 hB rfl ?_
  refine go_mst (q := 10) dX0_exchangeIn_9 hk hj1 hA rfl ?_
  refine go_aloadn0 (q := 11) dX0_exchangeIn_10 rfl ?_
  refine go_iloadn2 (q := 12) dX0_exchangeIn_11 rfl ?_
  refine go_iloadn3 (q := 13) dX0_exchangeIn_12 rfl ?_
  refine go_mst (q := 14) dX0_exchangeIn_13 hk hj1 hB rfl ?_
  exact go_ret0 dX0_exchangeIn_14 rfl (hQ _ ((Ch.rf.u j a _).u j b _))

set_option maxHeartbeats 4000000 in
set_option maxRecDepth 100000 in
theorem c_exchange {S : St} {N : Nat → Nat → Int64} {X : St} {Y : Nat → Int64} {Q : Option Value → AH → Prop} {k a b : Nat} (hk : k < 4) (ha : a < 12) (hb : b < 12) (hQ : ∀ S', Ch S S' k (swp (S k) a b) → Q none (hp S' N X Y)) : Cn 2 yX0_exchange cX0_exchange 3 none [.ref (mo k), .int (nI a), .int (nI b)] (hp S N X Y) Q := by
  refine cn_of (own := RX0) (lo := [some (.ref (mo k)), some (.int (nI a)), some (.int (nI b))]) 0 rfl (by decide +kernel) rfl (Nat.le_of_ble_eq_true rfl) ?_
  refine go_aloadn0 (q := 1) dX0_exchange_0 rfl ?_
  refine go_mg (q := 4) dX0_exchange_1 fl_X0_9 hk rfl rfl ?_
  refine go_iloadn1 (q := 5) dX0_exchange_4 rfl ?_
  refine go_iloadn2 (q := 6) dX0_exchange_5 rfl ?_
  refine go_is3_ (q := 9) dX0_exchange_6 lk_X0_80 (by decide) (by decide) (Nat.le_of_ble_eq_true rfl) rfl (c_exchIn (S := S) hk (by decide) ha hb (fun S1 h1 => ?_))
  refine go_aloadn0 (q := 10) dX0_exchange_9 rfl ?_
  refine go_mg (q := 13) dX0_exchange_10 fl_X0_15 hk rfl rfl ?_
  refine go_iloadn1 (q := 14) dX0_exchange_13 rfl ?_
  refine go_iloadn2 (q := 15) dX0_exchange_14 rfl ?_
  refine go_is3_ (q := 18) dX0_exchange_15 lk_X0_80 (by decide) (by decide) (Nat.le_of_ble_eq_true rfl) rfl (c_exchIn (S := S1) hk (by decide) ha hb (fun S2 h2 => ?_))
  refine go_aloadn0 (q := 19) dX0_exchange_18 rfl ?_
  refine go_mg (q := 22) dX0_exchange_19 fl_X0_18 hk rfl rfl ?_
  refine go_iloadn1 (q := 23) dX0_exchange_22 rfl ?_
  refine go_iloadn2 (q := 24) dX0_exchange_23 rfl ?_
  refine go_is3_ (q := 27) dX0_exchange_24 lk_X0_80 (by decide) (by decide) (Nat.le_of_ble_eq_true rfl) rfl (c_exchIn (S := S2) hk (by decide) ha hb (fun S3 h3 => ?_))
  refine go_aloadn0 (q := 28) dX0_exchange_27 rfl ?_
  refine go_mg (q := 31) dX0_exchange_28 fl_X0_21 hk rfl rfl ?_
  refine go_iloadn1 (q := 32) dX0_exchange_31 rfl ?_
  refine go_iloadn2 (q := 33) dX0_exchange_32 rfl ?_
  refine go_is3_ (q := 36) dX0_exchange_33 lk_X0_80 (by decide) (by decide) (Nat.le_of_ble_eq_true rfl) rfl (c_exchIn (S := S3) hk (by decide) ha hb (fun S4 h4 => ?_))
  exact go_ret0 dX0_exchange_36 rfl (hQ _ ((((h1.tr h2).tr h3).tr h4).to (by rw [h3.1, h2.1, h1.1]; exact swp1_4 _ _ _)))

set_option maxHeartbeats 4000000 in
set_option maxRecDepth 100000 in
theorem c_plantSet_2 {S : St} {N : Nat → Nat → Int64} {X : St} {Y : Nat → Int64} {Q : Option Value → AH → Prop} {k t : Nat} (hk : k < 4) (hw : WF (S k)) (ht : t < 2 ^ 31) (hQ : ∀ S', Ch S S' k (plantS (S k) t (S k 13 0)) → Q none (hp S' N X Y)) : ∀ (fu : Nat) (c : Nat) (S1 : St), S k 13 0 - c < fu → (c ≤ S k 13 0) → (Ch S S1 k (plantS (S k) t c)) → Go 1 RX0 cX0_plantSet 3 none 2 [some (.ref (mo k)), some (.int (nI t)), some (.int (nI c))] [] (hp S1 N X Y) Q := by
  intro fu
  induction fu with
  | zero => intro c S1 hfu; exact absurd hfu (Nat.not_lt_zero _)
  | succ fu ih =>
    intro c S1 hfu hc h1
    have h2 := hw.co
    have e13 : S1 k 13 0 = S k 13 0 := by rw [h1.1]; simp [plantS]
    have h5 := bit_01 t c
    refine go_iloadn2 (q := 3) dX0_plantSet_2 rfl ?_
    refine go_aloadn0 (q := 4) dX0_plantSet_3 rfl ?_
    refine go_mg (q := 7) dX0_plantSet_4 fl_X0_51 hk rfl rfl ?_
    rw [e13]
    refine go_icmp_geN (tgt := 32) (q := 10) dX0_plantSet_7 (by decide) rfl (by omega) (by omega) (fun h3 => ?_) (fun h3 => ?_)
    · skip
      exact go_ret0 dX0_plantSet_32 rfl (hQ _ (by rw [show S k 13 0 = c by omega]; exact h1))
    · skip
      refine go_iloadn1 (q := 11) dX0_plantSet_10 rfl ?_
      refine go_iloadn2 (q := 12) dX0_plantSet_11 rfl ?_
      refine go_ishr (q := 13) dX0_plantSet_12 rfl ?_
      refine go_iconstN (n := 1) (q := 14) dX0_plantSet_13 rfl ?_
      refine go_iand (q := 15) dX0_plantSet_14 rfl ?_
      refine go_st (st' := [.int (nI (bit t c))]) (by rw [m_bit ht (by omega)]) ?_
      refine go_iconstN (n := 1) (q := 16) dX0_plantSet_15 rfl ?_
      refine go_icmp_neN (tgt := 26) (q := 19) dX0_plantSet_16 (by decide) rfl (by omega) (by omega) (fun h4 => ?_) (fun h4 => ?_)
      · skip
        refine go_iincN2 (n := 1) (q := 29) dX0_plantSet_26 rfl (by decide) rfl ?_
        refine go_goto (tgt := 2) dX0_plantSet_29 (by decide) ?_
        exact ih (c + 1) S1 (by omega) (by omega) (h1.to (plantS_no h4).symm)
      · skip
        refine go_aloadn0 (q := 20) dX0_plantSet_19 rfl ?_
        refine go_mg (q := 23) dX0_plantSet_20 fl_X0_21 hk rfl rfl ?_
        refine go_iloadn2 (q := 24) dX0_plantSet_23 rfl ?_
        refine go_iconstN (n := 2) (q := 25) dX0_plantSet_24 rfl ?_
        refine go_mst (q := 26) dX0_plantSet_25 hk (by decide) (show c < 12 by omega) rfl ?_
        refine go_iincN2 (n := 1) (q := 29) dX0_plantSet_26 rfl (by decide) rfl ?_
        refine go_goto (tgt := 2) dX0_plantSet_29 (by decide) ?_
        exact ih (c + 1) _ (by omega) (by omega) ((h1.u 3 c 2).to (plantS_yes h4).symm)

set_option maxHeartbeats 4000000 in
set_option maxRecDepth 100000 in
theorem c_plantSet {S : St} {N : Nat → Nat → Int64} {X : St} {Y : Nat → Int64} {Q : Option Value → AH → Prop} {k t : Nat} (hk : k < 4) (hw : WF (S k)) (ht : t < 2 ^ 31) (hQ : ∀ S', Ch S S' k (plantS (S k) t (S k 13 0)) → Q none (hp S' N X Y)) : Cn 1 yX0_plantSet cX0_plantSet 3 none [.ref (mo k), .int (nI t)] (hp S N X Y) Q := by
  refine cn_of (own := RX0) (lo := [some (.ref (mo k)), some (.int (nI t)), none]) 1 rfl (by decide +kernel) rfl (Nat.le_of_ble_eq_true rfl) ?_
  refine go_iconstN (n := 0) (q := 1) dX0_plantSet_0 rfl ?_
  refine go_istoren2 (q := 2) dX0_plantSet_1 rfl (by decide) rfl ?_
  exact c_plantSet_2 hk hw ht hQ (S k 13 0 + 1) 0 S (by omega) (by omega) (by rw [plantS_0]; exact Ch.rf)

set_option maxHeartbeats 4000000 in
set_option maxRecDepth 100000 in
theorem c_rottenSet_4 {S : St} {N : Nat → Nat → Int64} {X : St} {Y : Nat → Int64} {Q : Option Value → AH → Prop} {k : Nat} (hk : k < 4) (hw : WF (S k)) (hQ : Q (some (.int (nI (rotS (S k))))) (hp S N X Y)) : ∀ (fu : Nat) (c a : Nat), S k 13 0 - c < fu → (c ≤ S k 13 0) → (setS (fun c => decide (S k 3 c = 1)) c = a) → Go 1 RX0 cX0_rottenSet 3 (some .int) 4 [some (.ref (mo k)), some (.int (nI a)), some (.int (nI c))] [] (hp S N X Y) Q := by
  intro fu
  induction fu with
  | zero => intro c a hfu; exact absurd hfu (Nat.not_lt_zero _)
  | succ fu ih =>
    intro c a hfu hc ha
    have h1 := hw.co
    have h2 := setS_lt (fun c => decide (S k 3 c = 1)) c
    rw [ha] at h2
    have h5 := hw.st c
    refine go_iloadn2 (q := 5) dX0_rottenSet_4 rfl ?_
    refine go_aloadn0 (q := 6) dX0_rottenSet_5 rfl ?_
    refine go_mg (q := 9) dX0_rottenSet_6 fl_X0_51 hk rfl rfl ?_
    refine go_icmp_geN (tgt := 34) (q := 12) dX0_rottenSet_9 (by decide) rfl (by omega) (by omega) (fun h3 => ?_) (fun h3 => ?_)
    · skip
      refine go_iloadn1 (q := 35) dX0_rottenSet_34 rfl ?_
      exact go_iretN dX0_rottenSet_35 rfl (by rw [← ha, show c = S k 13 0 by omega]; rfl) hQ
    · skip
      refine go_aloadn0 (q := 13) dX0_rottenSet_12 rfl ?_
      refine go_mg (q := 16) dX0_rottenSet_13 fl_X0_21 hk rfl rfl ?_
      refine go_iloadn2 (q := 17) dX0_rottenSet_16 rfl ?_
      refine go_mld (q := 18) dX0_rottenSet_17 hk (by decide) (show c < 12 by omega) rfl ?_
      refine go_iconstN (n := 1) (q := 19) dX0_rottenSet_18 rfl ?_
      refine go_icmp_neN (tgt := 28) (q := 22) dX0_rottenSet_19 (by decide) rfl (by omega) (by omega) (fun h4 => ?_) (fun h4 => ?_)
      · skip
        refine go_iincN2 (n := 1) (q := 31) dX0_rottenSet_28 rfl (by decide) rfl ?_
        refine go_goto (tgt := 4) dX0_rottenSet_31 (by decide) ?_
        exact ih (c + 1) a (by omega) (by omega) (by rw [setS_s, ha, if_neg (by simpa using h4)]; omega)
      · skip
        refine go_iloadn1 (q := 23) dX0_rottenSet_22 rfl ?_
        refine go_iconstN (n := 1) (q := 24) dX0_rottenSet_23 rfl ?_
        refine go_iloadn2 (q := 25) dX0_rottenSet_24 rfl ?_
        refine go_ishl (q := 26) dX0_rottenSet_25 rfl ?_
        refine go_ior (q := 27) dX0_rottenSet_26 rfl ?_
        refine go_st (st' := [.int (nI (a + 2 ^ c))]) (by rw [m_or (by omega) h2]) ?_
        refine go_istoren1 (q := 28) dX0_rottenSet_27 rfl (by decide) rfl ?_
        refine go_iincN2 (n := 1) (q := 31) dX0_rottenSet_28 rfl (by decide) rfl ?_
        refine go_goto (tgt := 4) dX0_rottenSet_31 (by decide) ?_
        exact ih (c + 1) (a + 2 ^ c) (by omega) (by omega) (by rw [setS_s, ha, if_pos (by simpa using h4), Nat.one_mul])

set_option maxHeartbeats 4000000 in
set_option maxRecDepth 100000 in
theorem c_rottenSet {S : St} {N : Nat → Nat → Int64} {X : St} {Y : Nat → Int64} {Q : Option Value → AH → Prop} {k : Nat} (hk : k < 4) (hw : WF (S k)) (hQ : Q (some (.int (nI (rotS (S k))))) (hp S N X Y)) : Cn 1 yX0_rottenSet cX0_rottenSet 3 (some .int) [.ref (mo k)] (hp S N X Y) Q := by
  refine cn_of (own := RX0) (lo := [some (.ref (mo k)), none, none]) 2 rfl (by decide +kernel) rfl (Nat.le_of_ble_eq_true rfl) ?_
  refine go_iconstN (n := 0) (q := 1) dX0_rottenSet_0 rfl ?_
  refine go_istoren1 (q := 2) dX0_rottenSet_1 rfl (by decide) rfl ?_
  refine go_iconstN (n := 0) (q := 3) dX0_rottenSet_2 rfl ?_
  refine go_istoren2 (q := 4) dX0_rottenSet_3 rfl (by decide) rfl ?_
  exact c_rottenSet_4 hk hw hQ (S k 13 0 + 1) 0 0 (by omega) (by omega) rfl

set_option maxHeartbeats 4000000 in
set_option maxRecDepth 100000 in
theorem c_unpaid_4 {S : St} {N : Nat → Nat → Int64} {X : St} {Y : Nat → Int64} {Q : Option Value → AH → Prop} {k : Nat} (hk : k < 4) (hw : WF (S k)) (hQ : Q (some (.int (nI (sm (fun i => 1 - S k 10 i) (S k 13 1))))) (hp S N X Y)) : ∀ (fu : Nat) (c a : Nat), S k 13 1 - c < fu → (c ≤ S k 13 1) → (sm (fun i => 1 - S k 10 i) c = a) → Go 1 RX0 cX0_unpaid 3 (some .int) 4 [some (.ref (mo k)), some (.int (nI a)), some (.int (nI c))] [] (hp S N X Y) Q := by
  intro fu
  induction fu with
  | zero => intro c a hfu; exact absurd hfu (Nat.not_lt_zero _)
  | succ fu ih =>
    intro c a hfu hc ha
    have h1 := hw.lo
    have h2 := (hw.ln c).2.2.2.2
    refine go_iloadn2 (q := 5) dX0_unpaid_4 rfl ?_
    refine go_aloadn0 (q := 6) dX0_unpaid_5 rfl ?_
    refine go_mg (q := 9) dX0_unpaid_6 fl_X0_55 hk rfl rfl ?_
    refine go_icmp_geN (tgt := 29) (q := 12) dX0_unpaid_9 (by decide) rfl (by omega) (by omega) (fun h3 => ?_) (fun h3 => ?_)
    · skip
      refine go_iloadn1 (q := 30) dX0_unpaid_29 rfl ?_
      exact go_iretN dX0_unpaid_30 rfl (by rw [← ha, show c = S k 13 1 by omega]) hQ
    · skip
      refine go_iloadn1 (q := 13) dX0_unpaid_12 rfl ?_
      refine go_iconstN (n := 1) (q := 14) dX0_unpaid_13 rfl ?_
      refine go_aloadn0 (q := 15) dX0_unpaid_14 rfl ?_
      refine go_mg (q := 18) dX0_unpaid_15 fl_X0_42 hk rfl rfl ?_
      refine go_iloadn2 (q := 19) dX0_unpaid_18 rfl ?_
      refine go_mld (q := 20) dX0_unpaid_19 hk (by decide) (show c < 8 by omega) rfl ?_
      refine go_isubN (q := 21) dX0_unpaid_20 h2 rfl ?_
      refine go_iaddN (q := 22) dX0_unpaid_21 rfl ?_
      refine go_istoren1 (q := 23) dX0_unpaid_22 rfl (by decide) rfl ?_
      refine go_iincN2 (n := 1) (q := 26) dX0_unpaid_23 rfl (by decide) rfl ?_
      refine go_goto (tgt := 4) dX0_unpaid_26 (by decide) ?_
      exact ih (c + 1) (a + (1 - S k 10 c)) (by omega) (by omega) (by rw [sm_s, ha])

set_option maxHeartbeats 4000000 in
set_option maxRecDepth 100000 in
theorem c_unpaid {S : St} {N : Nat → Nat → Int64} {X : St} {Y : Nat → Int64} {Q : Option Value → AH → Prop} {k : Nat} (hk : k < 4) (hw : WF (S k)) (hQ : Q (some (.int (nI (sm (fun i => 1 - S k 10 i) (S k 13 1))))) (hp S N X Y)) : Cn 1 yX0_unpaid cX0_unpaid 3 (some .int) [.ref (mo k)] (hp S N X Y) Q := by
  refine cn_of (own := RX0) (lo := [some (.ref (mo k)), none, none]) 2 rfl (by decide +kernel) rfl (Nat.le_of_ble_eq_true rfl) ?_
  refine go_iconstN (n := 0) (q := 1) dX0_unpaid_0 rfl ?_
  refine go_istoren1 (q := 2) dX0_unpaid_1 rfl (by decide) rfl ?_
  refine go_iconstN (n := 0) (q := 3) dX0_unpaid_2 rfl ?_
  refine go_istoren2 (q := 4) dX0_unpaid_3 rfl (by decide) rfl ?_
  exact c_unpaid_4 hk hw hQ (S k 13 1 + 1) 0 0 (by omega) (by omega) rfl

theorem max_sub {a b : Nat} (ha : a ≤ 99) (hb : b ≤ 7) : (if nI 0 < nI a - nI b then nI a - nI b else nI 0) = nI (a - b) := by
  by_cases h : b ≤ a
  · rw [pk_sub h, maxN (by omega) (by omega), Nat.zero_max]
  · have h1 : nI a - nI b < 0 := pk_sneg (by omega) (by omega)
    rw [if_neg, show a - b = 0 by omega]
    intro h2
    have h3 : nI a - nI b < nI 0 := h1
    rw [Int32.lt_iff_toInt_lt] at h2 h3
    omega
theorem shr_le (kd s : Nat) : shr kd s ≤ 7 := by
  unfold shr plainS
  split <;> split <;> (try split) <;> (try split) <;> omega

set_option maxHeartbeats 4000000 in
set_option maxRecDepth 100000 in
theorem c_shrinkOne {S : St} {N : Nat → Nat → Int64} {X : St} {Y : Nat → Int64} {Q : Option Value → AH → Prop} {k c s : Nat} {P : Prop} [Decidable P] (hk : k < 4) (hw : WF (S k)) (hc : c < 12) (hs : s < 12) (hQ : ∀ S', Ch S S' k (if S k 2 c - shr (S k 0 c) s = 0 ∨ (P ∧ ¬ blue (S k 0 c)) then u2 (u2 (S k) 2 c (S k 2 c - shr (S k 0 c) s)) 3 c 1 else u2 (S k) 2 c (S k 2 c - shr (S k 0 c) s)) → Q none (hp S' N X Y)) : Cn 3 yX0_shrinkOne cX0_shrinkOne 6 none [.ref (mo k), .int (nI c), .int (nI s), .int (bI P)] (hp S N X Y) Q := by
  have hkd := hw.kd c
  refine cn_of (own := RX0) (lo := [some (.ref (mo k)), some (.int (nI c)), some (.int (nI s)), some (.int (bI P)), none, none]) 2 rfl (by decide +kernel) rfl (Nat.le_of_ble_eq_true rfl) ?_
  refine go_aloadn0 (q := 1) dX0_shrinkOne_0 rfl ?_
  refine go_mg (q := 4) dX0_shrinkOne_1 fl_X0_9 hk rfl rfl ?_
  refine go_iloadn1 (q := 5) dX0_shrinkOne_4 rfl ?_
  refine go_mld (q := 6) dX0_shrinkOne_5 hk (by decide) hc rfl ?_
  refine go_istore4 (q := 8) dX0_shrinkOne_6 rfl (by decide) rfl ?_
  refine go_iconstN (n := 0) (q := 9) dX0_shrinkOne_8 rfl ?_
  refine go_aloadn0 (q := 10) dX0_shrinkOne_9 rfl ?_
  refine go_mg (q := 13) dX0_shrinkOne_10 fl_X0_18 hk rfl rfl ?_
  refine go_iloadn1 (q := 14) dX0_shrinkOne_13 rfl ?_
  refine go_mld (q := 15) dX0_shrinkOne_14 hk (by decide) hc rfl ?_
  refine go_iload4 (q := 17) dX0_shrinkOne_15 rfl ?_
  refine go_iloadn2 (q := 18) dX0_shrinkOne_17 rfl ?_
  refine go_is2_ (q := 21) dX0_shrinkOne_18 lk_X0_142 (by decide) (by decide) (Nat.le_of_ble_eq_true rfl) rfl (c_shrinks hkd hs ?_)
  refine go_isub (q := 22) dX0_shrinkOne_21 rfl ?_
  refine go_is2_ (q := 25) dX0_shrinkOne_22 lk_X0_70 (by decide) (by decide) (Nat.le_of_ble_eq_true rfl) rfl (c_max ?_)
  refine go_st (st' := [.int (nI (S k 2 c - shr (S k 0 c) s))]) (by rw [max_sub (hw.sz c) (shr_le _ _)]) ?_
  refine go_istore5 (q := 27) dX0_shrinkOne_25 rfl (by decide) rfl ?_
  refine go_aloadn0 (q := 28) dX0_shrinkOne_27 rfl ?_
  refine go_mg (q := 31) dX0_shrinkOne_28 fl_X0_18 hk rfl rfl ?_
  refine go_iloadn1 (q := 32) dX0_shrinkOne_31 rfl ?_
  refine go_iload5 (q := 34) dX0_shrinkOne_32 rfl ?_
  refine go_mst (q := 35) dX0_shrinkOne_34 hk (by decide) hc rfl ?_
  refine go_iload5 (q := 37) dX0_shrinkOne_35 rfl ?_
  refine go_if_eqN (tgt := 52) (q := 40) dX0_shrinkOne_37 (by decide) rfl (by have := hw.sz c; omega) (fun h1 => ?_) (fun h1 => ?_)
  · skip
    refine go_aloadn0 (q := 53) dX0_shrinkOne_52 rfl ?_
    refine go_mg (q := 56) dX0_shrinkOne_53 fl_X0_21 hk rfl rfl ?_
    refine go_iloadn1 (q := 57) dX0_shrinkOne_56 rfl ?_
    refine go_iconstN (n := 1) (q := 58) dX0_shrinkOne_57 rfl ?_
    refine go_mst (q := 59) dX0_shrinkOne_58 hk (by decide) hc rfl ?_
    exact go_ret0 dX0_shrinkOne_59 rfl (hQ _ (by rw [if_pos (Or.inl h1)]; exact (Ch.rf.u 2 c _).u 3 c 1))
  · skip
    refine go_iloadn3 (q := 41) dX0_shrinkOne_40 rfl ?_
    refine go_ifeqB (tgt := 59) (q := 44) dX0_shrinkOne_41 (by decide) rfl (fun h2 => ?_) (fun h2 => ?_)
    · skip
      exact go_ret0 dX0_shrinkOne_59 rfl (hQ _ (by rw [if_neg (fun z => z.elim h1 (fun w => h2 w.1))]; exact Ch.rf.u 2 c _))
    · skip
      refine go_iload4 (q := 46) dX0_shrinkOne_44 rfl ?_
      refine go_is1_ (q := 49) dX0_shrinkOne_46 lk_X0_145 (by decide) (by decide) (Nat.le_of_ble_eq_true rfl) rfl (c_turns hkd ?_)
      refine go_ifeqB (tgt := 59) (q := 52) dX0_shrinkOne_49 (by decide) rfl (fun h3 => ?_) (fun h3 => ?_)
      · skip
        exact go_ret0 dX0_shrinkOne_59 rfl (hQ _ (by rw [if_neg (fun z => z.elim h1 (fun w => h3 w.2))]; exact Ch.rf.u 2 c _))
      · skip
        refine go_aloadn0 (q := 53) dX0_shrinkOne_52 rfl ?_
        refine go_mg (q := 56) dX0_shrinkOne_53 fl_X0_21 hk rfl rfl ?_
        refine go_iloadn1 (q := 57) dX0_shrinkOne_56 rfl ?_
        refine go_iconstN (n := 1) (q := 58) dX0_shrinkOne_57 rfl ?_
        refine go_mst (q := 59) dX0_shrinkOne_58 hk (by decide) hc rfl ?_
        exact go_ret0 dX0_shrinkOne_59 rfl (hQ _ (by rw [if_pos (Or.inr ⟨h2, h3⟩)]; exact (Ch.rf.u 2 c _).u 3 c 1))

theorem yld_le {kd s : Nat} (hs : s ≤ 9) : yld kd s ≤ 17 := by
  unfold yld
  split <;> (try split) <;> (try split) <;> omega

set_option maxHeartbeats 4000000 in
set_option maxRecDepth 100000 in
theorem c_harvestOne {S : St} {N : Nat → Nat → Int64} {X : St} {Y : Nat → Int64} {Q : Option Value → AH → Prop} {k c : Nat} (hk : k < 4) (hw : WF (S k)) (hc : c < 12) (hQ : ∀ S', Ch S S' k (u2 (u2 (S k) 2 c (min 99 (S k 2 c * yld (S k 0 c) (S k 4 (S k 1 c))))) 3 c (if min 99 (S k 2 c * yld (S k 0 c) (S k 4 (S k 1 c))) = 0 then 1 else 0)) → Q none (hp S' N X Y)) : Cn 4 yX0_harvestOne cX0_harvestOne 3 none [.ref (mo k), .int (nI c)] (hp S N X Y) Q := by
  have hb : S k 2 c * yld (S k 0 c) (S k 4 (S k 1 c)) < 2 ^ 31 := Nat.lt_of_le_of_lt (Nat.mul_le_mul (hw.sz c) (yld_le (hw.so _))) (by decide)
  refine cn_of (own := RX0) (lo := [some (.ref (mo k)), some (.int (nI c)), none]) 1 rfl (by decide +kernel) rfl (Nat.le_of_ble_eq_true rfl) ?_
  refine go_bipushN (v := 99) (q := 2) dX0_harvestOne_0 (by decide) rfl ?_
  refine go_aloadn0 (q := 3) dX0_harvestOne_2 rfl ?_
  refine go_mg (q := 6) dX0_harvestOne_3 fl_X0_18 hk rfl rfl ?_
  refine go_iloadn1 (q := 7) dX0_harvestOne_6 rfl ?_
  refine go_mld (q := 8) dX0_harvestOne_7 hk (by decide) hc rfl ?_
  refine go_aloadn0 (q := 9) dX0_harvestOne_8 rfl ?_
  refine go_iloadn1 (q := 10) dX0_harvestOne_9 rfl ?_
  refine go_im1 (q := 13) dX0_harvestOne_10 lk_X0_149 (by decide) (by decide) (Nat.le_of_ble_eq_true rfl) hk rfl (c_yieldOf hk hw hc ?_)
  refine go_imulN (q := 14) dX0_harvestOne_13 rfl ?_
  refine go_is2_ (q := 17) dX0_harvestOne_14 lk_X0_118 (by decide) (by decide) (Nat.le_of_ble_eq_true rfl) rfl (c_min ?_)
  refine go_st (st' := [.int (nI (min 99 (S k 2 c * yld (S k 0 c) (S k 4 (S k 1 c)))))]) (by rw [minN (by decide) hb]) ?_
  refine go_istoren2 (q := 18) dX0_harvestOne_17 rfl (by decide) rfl ?_
  refine go_aloadn0 (q := 19) dX0_harvestOne_18 rfl ?_
  refine go_mg (q := 22) dX0_harvestOne_19 fl_X0_18 hk rfl rfl ?_
  refine go_iloadn1 (q := 23) dX0_harvestOne_22 rfl ?_
  refine go_iloadn2 (q := 24) dX0_harvestOne_23 rfl ?_
  refine go_mst (q := 25) dX0_harvestOne_24 hk (by decide) hc rfl ?_
  refine go_aloadn0 (q := 26) dX0_harvestOne_25 rfl ?_
  refine go_mg (q := 29) dX0_harvestOne_26 fl_X0_21 hk rfl rfl ?_
  refine go_iloadn1 (q := 30) dX0_harvestOne_29 rfl ?_
  refine go_iloadn2 (q := 31) dX0_harvestOne_30 rfl ?_
  refine go_if_neN (tgt := 38) (q := 34) dX0_harvestOne_31 (by decide) rfl (Nat.lt_of_le_of_lt (Nat.min_le_left _ _) (by decide)) (fun h1 => ?_) (fun h1 => ?_)
  · skip
    refine go_iconstN (n := 0) (q := 39) dX0_harvestOne_38 rfl ?_
    refine go_mst (q := 40) dX0_harvestOne_39 hk (by decide) hc rfl ?_
    exact go_ret0 dX0_harvestOne_40 rfl (hQ _ (by rw [if_neg h1]; exact (Ch.rf.u 2 c _).u 3 c 0))
  · skip
    refine go_iconstN (n := 1) (q := 35) dX0_harvestOne_34 rfl ?_
    refine go_goto (tgt := 39) dX0_harvestOne_35 (by decide) ?_
    refine go_mst (q := 40) dX0_harvestOne_39 hk (by decide) hc rfl ?_
    exact go_ret0 dX0_harvestOne_40 rfl (hQ _ (by rw [if_pos h1]; exact (Ch.rf.u 2 c _).u 3 c 1))

theorem bit_tb (s c : Nat) : bit s c = 1 ↔ s.testBit c = true := by
  unfold bit
  rw [Nat.testBit_eq_decide_div_mod_eq]
  simp
theorem bit_or (a b c : Nat) : bit (a ||| b) c = 1 ↔ bit a c = 1 ∨ bit b c = 1 := by
  rw [bit_tb, bit_tb, bit_tb, Nat.testBit_or, Bool.or_eq_true]
theorem bit_half (s c : Nat) : bit (s / 2) c = bit s (c + 1) := by
  unfold bit
  rw [Nat.div_div_eq_div_mul, Nat.pow_succ']
theorem bit_dbl (s c : Nat) : bit (s * 2) c = 1 ↔ 0 < c ∧ bit s (c - 1) = 1 := by
  match c with
  | 0 => simp [bit]
  | c + 1 =>
    have : bit (s * 2) (c + 1) = bit s c := by rw [← bit_half, Nat.mul_div_cancel _ (by decide)]
    simp [this]
theorem rotS_lt {M : Mk} (h : WF M) : rotS M < 4096 := Nat.lt_of_lt_of_le (setS_lt _ _) (Nat.pow_le_pow_right (by decide) h.co)
theorem besd_bit (M : Mk) (c : Nat) : bit (rotS M * 2 ||| rotS M / 2) c = 1 ↔ besd M c := by
  rw [bit_or, bit_dbl, bit_half, bit_rotS, bit_rotS]
theorem m_bes {r : Nat} (h : r < 4096) : (nI r <<< (nI 1 &&& 31)) ||| (nI r >>> (nI 1 &&& 31)) = nI (r * 2 ||| r / 2) := by
  rw [pk_shlN _ 1 (sh_31 1 (by decide)) (by omega), pk_shrN (by omega) _ 1 (sh_31 1 (by decide)), nI_or, Nat.pow_one]
theorem agUp_sound {M : Mk} {c : Nat} (h0 : M 3 c = 0) : (if M 2 c - shr (M 0 c) (sea M) = 0 ∨ (besd M c ∧ ¬ blue (M 0 c)) then u2 (u2 (agUp M c) 2 c (M 2 c - shr (M 0 c) (sea M))) 3 c 1 else u2 (agUp M c) 2 c (M 2 c - shr (M 0 c) (sea M))) = agUp M (c + 1) := by
  have e : agSz M c = M 2 c - shr (M 0 c) (sea M) := by unfold agSz; rw [if_pos h0]
  rw [agUp_s, e]
  have e2 : agSt M c = if M 2 c - shr (M 0 c) (sea M) = 0 ∨ (besd M c ∧ ¬ blue (M 0 c)) then 1 else 0 := by unfold agSt; rw [if_pos h0, e]
  rw [e2]
  by_cases hh : M 2 c - shr (M 0 c) (sea M) = 0 ∨ (besd M c ∧ ¬ blue (M 0 c))
  · rw [if_pos hh, if_pos hh]
  · rw [if_neg hh, if_neg hh, u2_id _ 3 c (by rw [u2_nj _ (by omega), agUp_at (Or.inr (Nat.le_refl c))]; exact h0)]
theorem agUp_plant {M : Mk} {c : Nat} (h2 : M 3 c = 2) (h8 : sea M = 8) : u2 (u2 (agUp M c) 2 c (min 99 (M 2 c * yld (M 0 c) (M 4 (M 1 c))))) 3 c (if min 99 (M 2 c * yld (M 0 c) (M 4 (M 1 c))) = 0 then 1 else 0) = agUp M (c + 1) := by
  have e : agSz M c = min 99 (M 2 c * yld (M 0 c) (M 4 (M 1 c))) := by unfold agSz; rw [if_neg (by omega), if_pos ⟨h2, h8⟩]
  have e2 : agSt M c = if agSz M c = 0 then 1 else 0 := by unfold agSt; rw [if_neg (by omega), if_pos ⟨h2, h8⟩]
  rw [agUp_s, e2, e]
theorem agUp_same {M : Mk} {c : Nat} (h : ¬ M 3 c = 0) (h' : ¬ (M 3 c = 2 ∧ sea M = 8)) : agUp M c = agUp M (c + 1) := by
  have e : agSz M c = M 2 c := by unfold agSz; rw [if_neg h, if_neg h']
  have e2 : agSt M c = M 3 c := by unfold agSt; rw [if_neg h, if_neg h']
  rw [agUp_s, e, e2, u2_id (agUp M c) 2 c (agUp_at (Or.inr (Nat.le_refl c))), u2_id (agUp M c) 3 c (agUp_at (Or.inr (Nat.le_refl c)))]

set_option maxHeartbeats 4000000 in
set_option maxRecDepth 100000 in
theorem c_ageOnce_21 {S : St} {N : Nat → Nat → Int64} {X : St} {Y : Nat → Int64} {Q : Option Value → AH → Prop} {k : Nat} (hk : k < 4) (hw : WF (S k)) (hQ : ∀ S', Ch S S' k (age1 (S k)) → Q none (hp S' N X Y)) : ∀ (fu : Nat) (c : Nat) (S1 : St), S k 13 0 - c < fu → (c ≤ S k 13 0) → (Ch S S1 k (agUp (S k) c)) → Go 5 RX0 cX0_ageOnce 5 none 21 [some (.ref (mo k)), some (.int (nI (sea (S k)))), some (.int (nI (rotS (S k)))), some (.int (nI (rotS (S k) * 2 ||| rotS (S k) / 2))), some (.int (nI c))] [] (hp S1 N X Y) Q := by
  intro fu
  induction fu with
  | zero => intro c S1 hfu; exact absurd hfu (Nat.not_lt_zero _)
  | succ fu ih =>
    intro c S1 hfu hc h1
    have h2 := hw.co
    have hw1 : WF (S1 k) := h1.wf (hw.agUp c)
    have e13 : S1 k 13 0 = S k 13 0 := by rw [h1.1, agUp_at (by omega)]
    have e0 : S1 k 0 c = S k 0 c := by rw [h1.1, agUp_at (by omega)]
    have e1 : S1 k 1 c = S k 1 c := by rw [h1.1, agUp_at (by omega)]
    have e2 : S1 k 2 c = S k 2 c := by rw [h1.1, agUp_at (by omega)]
    have e3 : S1 k 3 c = S k 3 c := by rw [h1.1, agUp_at (by omega)]
    have e4 : S1 k 4 = S k 4 := by rw [h1.1]; funext z; exact agUp_at (by omega)
    have h5 := bit_01 (rotS (S k) * 2 ||| rotS (S k) / 2) c
    have h9 := hw.st c
    have hr := rotS_lt hw
    have hb : rotS (S k) * 2 ||| rotS (S k) / 2 < 2 ^ 13 := Nat.or_lt_two_pow (by omega) (by omega)
    have hsl := sea_lt (S k)
    refine go_iload4 (q := 23) dX0_ageOnce_21 rfl ?_
    refine go_aloadn0 (q := 24) dX0_ageOnce_23 rfl ?_
    refine go_mg (q := 27) dX0_ageOnce_24 fl_X0_51 hk rfl rfl ?_
    rw [e13]
    refine go_icmp_geN (tgt := 94) (q := 30) dX0_ageOnce_27 (by decide) rfl (by omega) (by omega) (fun h3 => ?_) (fun h3 => ?_)
    · skip
      refine go_aloadn0 (q := 95) dX0_ageOnce_94 rfl ?_
      refine go_dup (q := 96) dX0_ageOnce_95 rfl rfl ?_
      refine go_mg (q := 99) dX0_ageOnce_96 fl_X0_58 hk rfl rfl ?_
      refine go_iconstN (n := 1) (q := 100) dX0_ageOnce_99 rfl ?_
      refine go_iaddN (q := 101) dX0_ageOnce_100 rfl ?_
      refine go_mpf (f := 2) (q := 104) dX0_ageOnce_101 fp_X0_58 hk (by decide) rfl ?_
      exact go_ret0 dX0_ageOnce_104 rfl (hQ _ ((h1.u 13 2 _).to (by unfold age1; rw [show c = S k 13 0 by omega, h1.1, agUp_at (by omega)])))
    · skip
      refine go_aloadn0 (q := 31) dX0_ageOnce_30 rfl ?_
      refine go_mg (q := 34) dX0_ageOnce_31 fl_X0_21 hk rfl rfl ?_
      refine go_iload4 (q := 36) dX0_ageOnce_34 rfl ?_
      refine go_mld (q := 37) dX0_ageOnce_36 hk (by decide) (show c < 12 by omega) rfl ?_
      rw [e3]
      refine go_if_neN (tgt := 65) (q := 40) dX0_ageOnce_37 (by decide) rfl (by omega) (fun h4 => ?_) (fun h4 => ?_)
      · skip
        refine go_aloadn0 (q := 66) dX0_ageOnce_65 rfl ?_
        refine go_mg (q := 69) dX0_ageOnce_66 fl_X0_21 hk rfl rfl ?_
        refine go_iload4 (q := 71) dX0_ageOnce_69 rfl ?_
        refine go_mld (q := 72) dX0_ageOnce_71 hk (by decide) (show c < 12 by omega) rfl ?_
        rw [e3]
        refine go_iconstN (n := 2) (q := 73) dX0_ageOnce_72 rfl ?_
        refine go_icmp_neN (tgt := 88) (q := 76) dX0_ageOnce_73 (by decide) rfl (by omega) (by omega) (fun h6 => ?_) (fun h6 => ?_)
        · skip
          refine go_iincN4 (n := 1) (q := 91) dX0_ageOnce_88 rfl (by decide) rfl ?_
          refine go_goto (tgt := 21) dX0_ageOnce_91 (by decide) ?_
          exact ih (c + 1) S1 (by omega) (by omega) (h1.to (agUp_same h4 (fun z => h6 z.1)))
        · skip
          refine go_iloadn1 (q := 77) dX0_ageOnce_76 rfl ?_
          refine go_bipushN (v := 8) (q := 79) dX0_ageOnce_77 (by decide) rfl ?_
          refine go_icmp_neN (tgt := 88) (q := 82) dX0_ageOnce_79 (by decide) rfl (by omega) (by omega) (fun h7 => ?_) (fun h7 => ?_)
          · skip
            refine go_iincN4 (n := 1) (q := 91) dX0_ageOnce_88 rfl (by decide) rfl ?_
            refine go_goto (tgt := 21) dX0_ageOnce_91 (by decide) ?_
            exact ih (c + 1) S1 (by omega) (by omega) (h1.to (agUp_same h4 (fun z => h7 z.2)))
          · skip
            refine go_aloadn0 (q := 83) dX0_ageOnce_82 rfl ?_
            refine go_iload4 (q := 85) dX0_ageOnce_83 rfl ?_
            refine go_im1 (q := 88) dX0_ageOnce_85 lk_X0_138 (by decide) (by decide) (Nat.le_of_ble_eq_true rfl) hk rfl (c_harvestOne hk hw1 (by omega) (fun S2 h8 => ?_))
            refine go_iincN4 (n := 1) (q := 91) dX0_ageOnce_88 rfl (by decide) rfl ?_
            refine go_goto (tgt := 21) dX0_ageOnce_91 (by decide) ?_
            exact ih (c + 1) S2 (by omega) (by omega) ((h1.tr h8).to (by rw [e0, e1, e2, e4, h1.1]; exact agUp_plant h6 h7))
      · skip
        refine go_aloadn0 (q := 41) dX0_ageOnce_40 rfl ?_
        refine go_iload4 (q := 43) dX0_ageOnce_41 rfl ?_
        refine go_iloadn1 (q := 44) dX0_ageOnce_43 rfl ?_
        refine go_iloadn3 (q := 45) dX0_ageOnce_44 rfl ?_
        refine go_iload4 (q := 47) dX0_ageOnce_45 rfl ?_
        refine go_ishr (q := 48) dX0_ageOnce_47 rfl ?_
        refine go_iconstN (n := 1) (q := 49) dX0_ageOnce_48 rfl ?_
        refine go_iand (q := 50) dX0_ageOnce_49 rfl ?_
        refine go_st (st' := [.int (nI (bit (rotS (S k) * 2 ||| rotS (S k) / 2) c)), .int (nI (sea (S k))), .int (nI c), .ref (mo k)]) (by rw [m_bit (by omega) (by omega)]) ?_
        refine go_iconstN (n := 1) (q := 51) dX0_ageOnce_50 rfl ?_
        refine go_icmp_neN (tgt := 58) (q := 54) dX0_ageOnce_51 (by decide) rfl (by omega) (by omega) (fun h7 => ?_) (fun h7 => ?_)
        · skip
          refine go_iconstN (n := 0) (q := 59) dX0_ageOnce_58 rfl ?_
          refine go_st (st' := [.int (bI (besd (S k) c)), .int (nI (sea (S k))), .int (nI c), .ref (mo k)]) (by rw [bI_f (fun z => h7 ((besd_bit _ _).mpr z))]; rfl) ?_
          refine go_im3 (q := 62) dX0_ageOnce_59 lk_X0_134 (by decide) (by decide) (Nat.le_of_ble_eq_true rfl) hk rfl (c_shrinkOne hk hw1 (by omega) (sea_lt _) (fun S2 h6 => ?_))
          refine go_goto (tgt := 88) dX0_ageOnce_62 (by decide) ?_
          refine go_iincN4 (n := 1) (q := 91) dX0_ageOnce_88 rfl (by decide) rfl ?_
          refine go_goto (tgt := 21) dX0_ageOnce_91 (by decide) ?_
          exact ih (c + 1) S2 (by omega) (by omega) ((h1.tr h6).to (by rw [e0, e2, h1.1]; exact agUp_sound h4))
        · skip
          refine go_iconstN (n := 1) (q := 55) dX0_ageOnce_54 rfl ?_
          refine go_goto (tgt := 59) dX0_ageOnce_55 (by decide) ?_
          refine go_st (st' := [.int (bI (besd (S k) c)), .int (nI (sea (S k))), .int (nI c), .ref (mo k)]) (by rw [bI_t ((besd_bit _ _).mp h7)]; rfl) ?_
          refine go_im3 (q := 62) dX0_ageOnce_59 lk_X0_134 (by decide) (by decide) (Nat.le_of_ble_eq_true rfl) hk rfl (c_shrinkOne hk hw1 (by omega) (sea_lt _) (fun S2 h6 => ?_))
          refine go_goto (tgt := 88) dX0_ageOnce_62 (by decide) ?_
          refine go_iincN4 (n := 1) (q := 91) dX0_ageOnce_88 rfl (by decide) rfl ?_
          refine go_goto (tgt := 21) dX0_ageOnce_91 (by decide) ?_
          exact ih (c + 1) S2 (by omega) (by omega) ((h1.tr h6).to (by rw [e0, e2, h1.1]; exact agUp_sound h4))

set_option maxHeartbeats 4000000 in
set_option maxRecDepth 100000 in
theorem c_ageOnce {S : St} {N : Nat → Nat → Int64} {X : St} {Y : Nat → Int64} {Q : Option Value → AH → Prop} {k : Nat} (hk : k < 4) (hw : WF (S k)) (hQ : ∀ S', Ch S S' k (age1 (S k)) → Q none (hp S' N X Y)) : Cn 5 yX0_ageOnce cX0_ageOnce 5 none [.ref (mo k)] (hp S N X Y) Q := by
  refine cn_of (own := RX0) (lo := [some (.ref (mo k)), none, none, none, none]) 4 rfl (by decide +kernel) rfl (Nat.le_of_ble_eq_true rfl) ?_
  refine go_aloadn0 (q := 1) dX0_ageOnce_0 rfl ?_
  refine go_im0 (q := 4) dX0_ageOnce_1 lk_X0_84 (by decide) (by decide) (Nat.le_of_ble_eq_true rfl) hk rfl (c_season hk hw ?_)
  refine go_istoren1 (q := 5) dX0_ageOnce_4 rfl (by decide) rfl ?_
  refine go_aloadn0 (q := 6) dX0_ageOnce_5 rfl ?_
  refine go_im0 (q := 9) dX0_ageOnce_6 lk_X0_131 (by decide) (by decide) (Nat.le_of_ble_eq_true rfl) hk rfl (c_rottenSet hk hw ?_)
  refine go_istoren2 (q := 10) dX0_ageOnce_9 rfl (by decide) rfl ?_
  refine go_iloadn2 (q := 11) dX0_ageOnce_10 rfl ?_
  refine go_iconstN (n := 1) (q := 12) dX0_ageOnce_11 rfl ?_
  refine go_ishl (q := 13) dX0_ageOnce_12 rfl ?_
  refine go_iloadn2 (q := 14) dX0_ageOnce_13 rfl ?_
  refine go_iconstN (n := 1) (q := 15) dX0_ageOnce_14 rfl ?_
  refine go_ishr (q := 16) dX0_ageOnce_15 rfl ?_
  refine go_ior (q := 17) dX0_ageOnce_16 rfl ?_
  refine go_st (st' := [.int (nI (rotS (S k) * 2 ||| rotS (S k) / 2))]) (by rw [m_bes (rotS_lt hw)]) ?_
  refine go_istoren3 (q := 18) dX0_ageOnce_17 rfl (by decide) rfl ?_
  refine go_iconstN (n := 0) (q := 19) dX0_ageOnce_18 rfl ?_
  refine go_istore4 (q := 21) dX0_ageOnce_19 rfl (by decide) rfl ?_
  exact c_ageOnce_21 hk hw hQ (S k 13 0 + 1) 0 S (by omega) (by omega) (by rw [agUp_0]; exact Ch.rf)

theorem wf_agN {M : Mk} (h : WF M) : ∀ {n : Nat}, M 13 2 + n ≤ 10000 → WF (agN M n) ∧ agN M n 13 2 = M 13 2 + n := by
  intro n
  induction n with
  | zero => intro _; exact ⟨h, rfl⟩
  | succ n ih =>
    intro hn
    obtain ⟨h1, h2⟩ := ih (by omega)
    exact ⟨h1.age1 (by omega), by rw [show agN M (n + 1) = age1 (agN M n) from rfl]; rw [(age1_13 _).2.2.1, h2]; omega⟩

set_option maxHeartbeats 4000000 in
set_option maxRecDepth 100000 in
theorem c_age_2 {S : St} {N : Nat → Nat → Int64} {X : St} {Y : Nat → Int64} {Q : Option Value → AH → Prop} {k n0 : Nat} (hk : k < 4) (hw : WF (S k)) (hn : S k 13 2 + n0 ≤ 10000) (hQ : ∀ S', Ch S S' k (agN (S k) n0) → Q none (hp S' N X Y)) : ∀ (fu : Nat) (c : Nat) (S1 : St), n0 - c < fu → (c ≤ n0) → (Ch S S1 k (agN (S k) c)) → Go 6 RX0 cX0_age 3 none 2 [some (.ref (mo k)), some (.int (nI n0)), some (.int (nI c))] [] (hp S1 N X Y) Q := by
  intro fu
  induction fu with
  | zero => intro c S1 hfu; exact absurd hfu (Nat.not_lt_zero _)
  | succ fu ih =>
    intro c S1 hfu hc h1
    have h2 := wf_agN hw (n := c) (by omega)
    have hw1 : WF (S1 k) := h1.wf h2.1
    refine go_iloadn2 (q := 3) dX0_age_2 rfl ?_
    refine go_iloadn1 (q := 4) dX0_age_3 rfl ?_
    refine go_icmp_geN (tgt := 17) (q := 7) dX0_age_4 (by decide) rfl (by omega) (by omega) (fun h3 => ?_) (fun h3 => ?_)
    · skip
      exact go_ret0 dX0_age_17 rfl (hQ _ (by rw [show n0 = c by omega]; exact h1))
    · skip
      refine go_aloadn0 (q := 8) dX0_age_7 rfl ?_
      refine go_im0 (q := 11) dX0_age_8 lk_X0_125 (by decide) (by decide) (Nat.le_of_ble_eq_true rfl) hk rfl (c_ageOnce hk hw1 (fun S2 h6 => ?_))
      refine go_iincN2 (n := 1) (q := 14) dX0_age_11 rfl (by decide) rfl ?_
      refine go_goto (tgt := 2) dX0_age_14 (by decide) ?_
      exact ih (c + 1) S2 (by omega) (by omega) ((h1.tr h6).to (by rw [h1.1]; rfl))

set_option maxHeartbeats 4000000 in
set_option maxRecDepth 100000 in
theorem c_age {S : St} {N : Nat → Nat → Int64} {X : St} {Y : Nat → Int64} {Q : Option Value → AH → Prop} {k n : Nat} (hk : k < 4) (hw : WF (S k)) (hn : S k 13 2 + n ≤ 10000) (hQ : ∀ S', Ch S S' k (agN (S k) n) → Q none (hp S' N X Y)) : Cn 6 yX0_age cX0_age 3 none [.ref (mo k), .int (nI n)] (hp S N X Y) Q := by
  refine cn_of (own := RX0) (lo := [some (.ref (mo k)), some (.int (nI n)), none]) 1 rfl (by decide +kernel) rfl (Nat.le_of_ble_eq_true rfl) ?_
  refine go_iconstN (n := 0) (q := 1) dX0_age_0 rfl ?_
  refine go_istoren2 (q := 2) dX0_age_1 rfl (by decide) rfl ?_
  exact c_age_2 hk hw hn hQ (n + 1) 0 S (by omega) (by omega) Ch.rf
