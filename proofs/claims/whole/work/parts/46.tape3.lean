set_option maxHeartbeats 4000000 in
set_option maxRecDepth 100000 in
theorem c_tellCoin {S : St} {N : Nat → Nat → Int64} {X : St} {Y : Nat → Int64} {Q : Option Value → AH → Prop} {k : Nat} (hG : tpG (S 4)) (hc : S 2 13 0 < 12) (hQ : ∀ b T' M', pcoin (S 4) (S 2) k = (b, T', M') → ∀ S', Tz S S' T' M' → Q (some (.int (bI (b = true)))) (hp S' N X Y)) : Cn 7 yX2_tellCoin cX2_tellCoin 6 (some .boolean) [.ref 57, .ref (mo 2), .int (nI k)] (hp S N X Y) Q := by
  refine cn_of (own := RX2) (lo := [some (.ref 57), some (.ref (mo 2)), some (.int (nI k)), none, none, none]) 3 rfl (by decide +kernel) rfl (Nat.le_of_ble_eq_true rfl) ?_
  refine go_aloadn0 (q := 1) dX2_tellCoin_0 rfl ?_
  refine go_it0 (q := 4) dX2_tellCoin_1 lk_X2_22 (by decide) (by decide) (Nat.le_of_ble_eq_true rfl) rfl (c_goAhead hG.1 hG.2.2.1 (fun S1 g1 => ?_))
  have hG1 : tpG (tkn (S 4)) := tkn_G hG.1 hG.2.2.1
  have z1 : Tz S S1 (tkn (S 4)) (S 2) := Tz.rf.tk g1
  have q1 : tpG (S1 4) := by rw [z1.1]; exact hG1
  refine go_aloadn0 (q := 5) dX2_tellCoin_4 rfl ?_
  refine go_ldcS 6 (by decide) dX2_tellCoin_5 ⟨rfl, rfl⟩ rfl ?_
  refine go_it1 (q := 10) dX2_tellCoin_7 lk_X2_72 (by decide) (by decide) (Nat.le_of_ble_eq_true rfl) rfl (c_takeWord (j := 6) q1 (by decide) (fun S2 g2 => ?_))
  rw [z1.1] at g2 ⊢
  refine go_ifneB (tgt := 15) (q := 13) dX2_tellCoin_10 (by decide) rfl (fun h1 => ?_) (fun h1 => ?_)
  · skip
    rw [if_pos h1] at g2
    have hG2 : tpG (tkn (tkn (S 4))) := tkn_G hG1.1 hG1.2.2.1
    have z2 : Tz S S2 (tkn (tkn (S 4))) (S 2) := z1.tk g2
    have q2 : tpG (S2 4) := by rw [z2.1]; exact hG2
    refine go_aloadn0 (q := 16) dX2_tellCoin_15 rfl ?_
    refine go_iconstN (n := 0) (q := 17) dX2_tellCoin_16 rfl ?_
    refine go_iconstN (n := 3) (q := 18) dX2_tellCoin_17 rfl ?_
    refine go_it2 (q := 21) dX2_tellCoin_18 lk_X2_75 (by decide) (by decide) (Nat.le_of_ble_eq_true rfl) rfl (c_takeNumber (x := 0) (y := 3) q2 (by decide) (by decide) (fun S3 g3 => ?_))
    rw [z2.1] at g3 ⊢
    have a2 := hG2.2.2.2.1
    refine go_istoren3 (q := 22) dX2_tellCoin_21 rfl (by decide) rfl ?_
    refine go_iloadn3 (q := 23) dX2_tellCoin_22 rfl ?_
    refine go_if_lt (tgt := 35) (q := 26) dX2_tellCoin_23 (by decide) rfl (fun h2 => ?_) (fun h2 => ?_)
    · skip
      have n2 : ¬ nb (tkn (tkn (S 4))) 0 3 := (tn_lt (by omega)).mp h2
      rw [if_neg n2] at g3
      have zz := z2.tk g3
      refine go_iconstN (n := 0) (q := 36) dX2_tellCoin_35 rfl ?_
      exact go_zretF dX2_tellCoin_36 rfl Bool.false_ne_true (hQ false _ _ (by unfold pcoin; rw [if_neg (Decidable.not_not.mpr h1), if_pos n2]) _ zz)
    · skip
      have n2 : nb (tkn (tkn (S 4))) 0 3 := Decidable.not_not.mp (fun w => h2 ((tn_lt (by omega)).mpr w))
      rw [if_pos n2]
      rw [if_pos n2] at g3
      have hG3 : tpG (tkn (tkn (tkn (S 4)))) := tkn_G hG2.1 hG2.2.2.1
      have z3 : Tz S S3 (tkn (tkn (tkn (S 4)))) (S 2) := z2.tk g3
      have q3 : tpG (S3 4) := by rw [z3.1]; exact hG3
      refine go_aloadn0 (q := 27) dX2_tellCoin_26 rfl ?_
      refine go_ldcS 7 (by decide) dX2_tellCoin_27 ⟨rfl, rfl⟩ rfl ?_
      refine go_it1 (q := 32) dX2_tellCoin_29 lk_X2_72 (by decide) (by decide) (Nat.le_of_ble_eq_true rfl) rfl (c_takeWord (j := 7) q3 (by decide) (fun S4 g4 => ?_))
      rw [z3.1] at g4 ⊢
      refine go_ifneB (tgt := 37) (q := 35) dX2_tellCoin_32 (by decide) rfl (fun h3 => ?_) (fun h3 => ?_)
      · skip
        rw [if_pos h3] at g4
        have hG4 : tpG (tkn (tkn (tkn (tkn (S 4))))) := tkn_G hG3.1 hG3.2.2.1
        have z4 : Tz S S4 (tkn (tkn (tkn (tkn (S 4))))) (S 2) := z3.tk g4
        have q4 : tpG (S4 4) := by rw [z4.1]; exact hG4
        refine go_aloadn0 (q := 38) dX2_tellCoin_37 rfl ?_
        refine go_iconstN (n := 0) (q := 39) dX2_tellCoin_38 rfl ?_
        refine go_bipushN (v := 99) (q := 41) dX2_tellCoin_39 (by decide) rfl ?_
        refine go_it2 (q := 44) dX2_tellCoin_41 lk_X2_75 (by decide) (by decide) (Nat.le_of_ble_eq_true rfl) rfl (c_takeNumber (x := 0) (y := 99) q4 (by decide) (by decide) (fun S5 g5 => ?_))
        rw [z4.1] at g5 ⊢
        have a4 := hG4.2.2.2.1
        refine go_istore4 (q := 46) dX2_tellCoin_44 rfl (by decide) rfl ?_
        refine go_iload4 (q := 48) dX2_tellCoin_46 rfl ?_
        refine go_if_ge (tgt := 53) (q := 51) dX2_tellCoin_48 (by decide) rfl (fun h4 => ?_) (fun h4 => ?_)
        · skip
          have n4 : nb (tkn (tkn (tkn (tkn (S 4))))) 0 99 := (tn_ge (by omega)).mp h4
          rw [if_pos n4]
          rw [if_pos n4] at g5
          have hG5 : tpG (tkn (tkn (tkn (tkn (tkn (S 4)))))) := tkn_G hG4.1 hG4.2.2.1
          have z5 : Tz S S5 (tkn (tkn (tkn (tkn (tkn (S 4)))))) (S 2) := z4.tk g5
          have q5 : tpG (S5 4) := by rw [z5.1]; exact hG5
          refine go_aloadn0 (q := 54) dX2_tellCoin_53 rfl ?_
          refine go_ldcS 8 (by decide) dX2_tellCoin_54 ⟨rfl, rfl⟩ rfl ?_
          refine go_it1 (q := 59) dX2_tellCoin_56 lk_X2_72 (by decide) (by decide) (Nat.le_of_ble_eq_true rfl) rfl (c_takeWord (j := 8) q5 (by decide) (fun S6 g6 => ?_))
          rw [z5.1] at g6 ⊢
          refine go_ifeqB (tgt := 66) (q := 62) dX2_tellCoin_59 (by decide) rfl (fun h5 => ?_) (fun h5 => ?_)
          · skip
            rw [if_neg h5] at g6
            have z6 := z5.tk g6
            have q6 : tpG (S6 4) := by rw [z6.1]; exact hG5
            refine go_aloadn0 (q := 67) dX2_tellCoin_66 rfl ?_
            refine go_ldcS 9 (by decide) dX2_tellCoin_67 ⟨rfl, rfl⟩ rfl ?_
            refine go_it1 (q := 72) dX2_tellCoin_69 lk_X2_72 (by decide) (by decide) (Nat.le_of_ble_eq_true rfl) rfl (c_takeWord (j := 9) q6 (by decide) (fun S7 g7 => ?_))
            rw [z6.1] at g7 ⊢
            refine go_ifeqB (tgt := 79) (q := 75) dX2_tellCoin_72 (by decide) rfl (fun h6 => ?_) (fun h6 => ?_)
            · skip
              rw [if_neg h6] at g7
              have zz := z6.tk g7
              refine go_iconstN (n := 0) (q := 80) dX2_tellCoin_79 rfl ?_
              refine go_istore5 (q := 82) dX2_tellCoin_80 rfl (by decide) rfl ?_
              refine go_aloadn1 (q := 83) dX2_tellCoin_82 rfl ?_
              refine go_iloadn2 (q := 84) dX2_tellCoin_83 rfl ?_
              refine go_iloadn3 (q := 85) dX2_tellCoin_84 rfl ?_
              refine go_iload4 (q := 87) dX2_tellCoin_85 rfl ?_
              refine go_iload5 (q := 89) dX2_tellCoin_87 rfl ?_
              refine go_im4 (q := 92) dX2_tellCoin_89 lk_X2_85 (by decide) (by decide) (Nat.le_of_ble_eq_true rfl) (by decide) rfl (c_addCoin (k := 2) (by decide) (by rw [zz.2.1]; exact hc) (fun S8 g8 => ?_))
              rw [zz.2.1] at g8
              refine go_pop (q := 93) dX2_tellCoin_92 rfl rfl ?_
              refine go_iconstN (n := 1) (q := 94) dX2_tellCoin_93 rfl ?_
              exact go_zretT dX2_tellCoin_94 rfl rfl (hQ true _ _ (by unfold pcoin; rw [if_neg (Decidable.not_not.mpr h1), if_neg (Decidable.not_not.mpr n2), if_neg (Decidable.not_not.mpr h3), if_neg (Decidable.not_not.mpr n4), if_neg h5, if_neg h6]) _ (zz.ch g8))
            · skip
              rw [if_pos h6] at g7
              have zz := z6.tk g7
              refine go_iconstN (n := 2) (q := 76) dX2_tellCoin_75 rfl ?_
              refine go_goto (tgt := 80) dX2_tellCoin_76 (by decide) ?_
              refine go_istore5 (q := 82) dX2_tellCoin_80 rfl (by decide) rfl ?_
              refine go_aloadn1 (q := 83) dX2_tellCoin_82 rfl ?_
              refine go_iloadn2 (q := 84) dX2_tellCoin_83 rfl ?_
              refine go_iloadn3 (q := 85) dX2_tellCoin_84 rfl ?_
              refine go_iload4 (q := 87) dX2_tellCoin_85 rfl ?_
              refine go_iload5 (q := 89) dX2_tellCoin_87 rfl ?_
              refine go_im4 (q := 92) dX2_tellCoin_89 lk_X2_85 (by decide) (by decide) (Nat.le_of_ble_eq_true rfl) (by decide) rfl (c_addCoin (k := 2) (by decide) (by rw [zz.2.1]; exact hc) (fun S8 g8 => ?_))
              rw [zz.2.1] at g8
              refine go_pop (q := 93) dX2_tellCoin_92 rfl rfl ?_
              refine go_iconstN (n := 1) (q := 94) dX2_tellCoin_93 rfl ?_
              exact go_zretT dX2_tellCoin_94 rfl rfl (hQ true _ _ (by unfold pcoin; rw [if_neg (Decidable.not_not.mpr h1), if_neg (Decidable.not_not.mpr n2), if_neg (Decidable.not_not.mpr h3), if_neg (Decidable.not_not.mpr n4), if_neg h5, if_pos h6]) _ (zz.ch g8))
          · skip
            rw [if_pos h5] at g6
            have zz := z5.tk g6
            refine go_iconstN (n := 1) (q := 63) dX2_tellCoin_62 rfl ?_
            refine go_goto (tgt := 80) dX2_tellCoin_63 (by decide) ?_
            refine go_istore5 (q := 82) dX2_tellCoin_80 rfl (by decide) rfl ?_
            refine go_aloadn1 (q := 83) dX2_tellCoin_82 rfl ?_
            refine go_iloadn2 (q := 84) dX2_tellCoin_83 rfl ?_
            refine go_iloadn3 (q := 85) dX2_tellCoin_84 rfl ?_
            refine go_iload4 (q := 87) dX2_tellCoin_85 rfl ?_
            refine go_iload5 (q := 89) dX2_tellCoin_87 rfl ?_
            refine go_im4 (q := 92) dX2_tellCoin_89 lk_X2_85 (by decide) (by decide) (Nat.le_of_ble_eq_true rfl) (by decide) rfl (c_addCoin (k := 2) (by decide) (by rw [zz.2.1]; exact hc) (fun S8 g8 => ?_))
            rw [zz.2.1] at g8
            refine go_pop (q := 93) dX2_tellCoin_92 rfl rfl ?_
            refine go_iconstN (n := 1) (q := 94) dX2_tellCoin_93 rfl ?_
            exact go_zretT dX2_tellCoin_94 rfl rfl (hQ true _ _ (by unfold pcoin; rw [if_neg (Decidable.not_not.mpr h1), if_neg (Decidable.not_not.mpr n2), if_neg (Decidable.not_not.mpr h3), if_neg (Decidable.not_not.mpr n4), if_pos h5]) _ (zz.ch g8))
        · skip
          have n4 : ¬ nb (tkn (tkn (tkn (tkn (S 4))))) 0 99 := fun w => h4 ((tn_ge (by omega)).mpr w)
          rw [if_neg n4] at g5
          have zz := z4.tk g5
          refine go_iconstN (n := 0) (q := 52) dX2_tellCoin_51 rfl ?_
          exact go_zretF dX2_tellCoin_52 rfl Bool.false_ne_true (hQ false _ _ (by unfold pcoin; rw [if_neg (Decidable.not_not.mpr h1), if_neg (Decidable.not_not.mpr n2), if_neg (Decidable.not_not.mpr h3), if_pos n4]) _ zz)
      · skip
        rw [if_neg h3] at g4
        have zz := z3.tk g4
        refine go_iconstN (n := 0) (q := 36) dX2_tellCoin_35 rfl ?_
        exact go_zretF dX2_tellCoin_36 rfl Bool.false_ne_true (hQ false _ _ (by unfold pcoin; rw [if_neg (Decidable.not_not.mpr h1), if_neg (Decidable.not_not.mpr n2), if_pos h3]) _ zz)
  · skip
    rw [if_neg h1] at g2
    have zz := z1.tk g2
    refine go_iconstN (n := 0) (q := 14) dX2_tellCoin_13 rfl ?_
    exact go_zretF dX2_tellCoin_14 rfl Bool.false_ne_true (hQ false _ _ (by unfold pcoin; rw [if_pos h1]) _ zz)

set_option maxHeartbeats 4000000 in
set_option maxRecDepth 100000 in
theorem c_tellSoil {S : St} {N : Nat → Nat → Int64} {X : St} {Y : Nat → Int64} {Q : Option Value → AH → Prop} (hG : tpG (S 4)) (hQ : ∀ b T' M', ptwo (S 4) (S 2) 4 3 9 = (b, T', M') → ∀ S', Tz S S' T' M' → Q (some (.int (bI (b = true)))) (hp S' N X Y)) : Cn 7 yX2_tellSoil cX2_tellSoil 4 (some .boolean) [.ref 57, .ref (mo 2)] (hp S N X Y) Q := by
  refine cn_of (own := RX2) (lo := [some (.ref 57), some (.ref (mo 2)), none, none]) 2 rfl (by decide +kernel) rfl (Nat.le_of_ble_eq_true rfl) ?_
  refine go_aloadn0 (q := 1) dX2_tellSoil_0 rfl ?_
  refine go_it0 (q := 4) dX2_tellSoil_1 lk_X2_22 (by decide) (by decide) (Nat.le_of_ble_eq_true rfl) rfl (c_goAhead hG.1 hG.2.2.1 (fun S1 g1 => ?_))
  have hG1 : tpG (tkn (S 4)) := tkn_G hG.1 hG.2.2.1
  have z1 : Tz S S1 (tkn (S 4)) (S 2) := Tz.rf.tk g1
  have q1 : tpG (S1 4) := by rw [z1.1]; exact hG1
  refine go_aloadn0 (q := 5) dX2_tellSoil_4 rfl ?_
  refine go_iconstN (n := 0) (q := 6) dX2_tellSoil_5 rfl ?_
  refine go_iconstN (n := 3) (q := 7) dX2_tellSoil_6 rfl ?_
  refine go_it2 (q := 10) dX2_tellSoil_7 lk_X2_75 (by decide) (by decide) (Nat.le_of_ble_eq_true rfl) rfl (c_takeNumber (x := 0) (y := 3) q1 (by decide) (by decide) (fun S2 g2 => ?_))
  rw [z1.1] at g2 ⊢
  have a1 := hG1.2.2.2.1
  refine go_istoren2 (q := 11) dX2_tellSoil_10 rfl (by decide) rfl ?_
  refine go_iloadn2 (q := 12) dX2_tellSoil_11 rfl ?_
  refine go_if_ge (tgt := 17) (q := 15) dX2_tellSoil_12 (by decide) rfl (fun h1 => ?_) (fun h1 => ?_)
  · skip
    have n1 : nb (tkn (S 4)) 0 3 := (tn_ge (by omega)).mp h1
    rw [if_pos n1]
    rw [if_pos n1] at g2
    have hG2 : tpG (tkn (tkn (S 4))) := tkn_G hG1.1 hG1.2.2.1
    have z2 : Tz S S2 (tkn (tkn (S 4))) (S 2) := z1.tk g2
    have q2 : tpG (S2 4) := by rw [z2.1]; exact hG2
    refine go_aloadn0 (q := 18) dX2_tellSoil_17 rfl ?_
    refine go_iconstN (n := 0) (q := 19) dX2_tellSoil_18 rfl ?_
    refine go_bipushN (v := 9) (q := 21) dX2_tellSoil_19 (by decide) rfl ?_
    refine go_it2 (q := 24) dX2_tellSoil_21 lk_X2_75 (by decide) (by decide) (Nat.le_of_ble_eq_true rfl) rfl (c_takeNumber (x := 0) (y := 9) q2 (by decide) (by decide) (fun S3 g3 => ?_))
    rw [z2.1] at g3 ⊢
    have a2 := hG2.2.2.2.1
    refine go_istoren3 (q := 25) dX2_tellSoil_24 rfl (by decide) rfl ?_
    refine go_iloadn3 (q := 26) dX2_tellSoil_25 rfl ?_
    refine go_if_ge (tgt := 31) (q := 29) dX2_tellSoil_26 (by decide) rfl (fun h2 => ?_) (fun h2 => ?_)
    · skip
      have n2 : nb (tkn (tkn (S 4))) 0 9 := (tn_ge (by omega)).mp h2
      rw [if_pos n2]
      rw [if_pos n2] at g3
      have hG3 : tpG (tkn (tkn (tkn (S 4)))) := tkn_G hG2.1 hG2.2.2.1
      have z3 : Tz S S3 (tkn (tkn (tkn (S 4)))) (S 2) := z2.tk g3
      have q3 : tpG (S3 4) := by rw [z3.1]; exact hG3
      have b1 := n1.2.2
      refine go_aloadn1 (q := 32) dX2_tellSoil_31 rfl ?_
      refine go_mg (q := 35) dX2_tellSoil_32 fl_X2_89 (by decide) rfl rfl ?_
      refine go_iloadn2 (q := 36) dX2_tellSoil_35 rfl ?_
      refine go_iloadn3 (q := 37) dX2_tellSoil_36 rfl ?_
      refine go_mst (q := 38) dX2_tellSoil_37 (by decide) (by decide) (show (tkn (S 4)) 1 4 < 4 by omega) rfl ?_
      refine go_iconstN (n := 1) (q := 39) dX2_tellSoil_38 rfl ?_
      exact go_zretT dX2_tellSoil_39 rfl rfl (hQ true _ _ (by unfold ptwo; rw [if_neg (Decidable.not_not.mpr n1), if_neg (Decidable.not_not.mpr n2)]) _ (z3.ch ((Ch.rf.u 4 _ _).to (by rw [z3.2.1]))))
    · skip
      have n2 : ¬ nb (tkn (tkn (S 4))) 0 9 := fun w => h2 ((tn_ge (by omega)).mpr w)
      rw [if_neg n2] at g3
      have zz := z2.tk g3
      refine go_iconstN (n := 0) (q := 30) dX2_tellSoil_29 rfl ?_
      exact go_zretF dX2_tellSoil_30 rfl Bool.false_ne_true (hQ false _ _ (by unfold ptwo; rw [if_neg (Decidable.not_not.mpr n1), if_pos n2]) _ zz)
  · skip
    have n1 : ¬ nb (tkn (S 4)) 0 3 := fun w => h1 ((tn_ge (by omega)).mpr w)
    rw [if_neg n1] at g2
    have zz := z1.tk g2
    refine go_iconstN (n := 0) (q := 16) dX2_tellSoil_15 rfl ?_
    exact go_zretF dX2_tellSoil_16 rfl Bool.false_ne_true (hQ false _ _ (by unfold ptwo; rw [if_pos n1]) _ zz)

set_option maxHeartbeats 4000000 in
set_option maxRecDepth 100000 in
theorem c_tellPrice {S : St} {N : Nat → Nat → Int64} {X : St} {Y : Nat → Int64} {Q : Option Value → AH → Prop} (hG : tpG (S 4)) (hQ : ∀ b T' M', ptwo (S 4) (S 2) 5 11 99 = (b, T', M') → ∀ S', Tz S S' T' M' → Q (some (.int (bI (b = true)))) (hp S' N X Y)) : Cn 7 yX2_tellPrice cX2_tellPrice 4 (some .boolean) [.ref 57, .ref (mo 2)] (hp S N X Y) Q := by
  refine cn_of (own := RX2) (lo := [some (.ref 57), some (.ref (mo 2)), none, none]) 2 rfl (by decide +kernel) rfl (Nat.le_of_ble_eq_true rfl) ?_
  refine go_aloadn0 (q := 1) dX2_tellPrice_0 rfl ?_
  refine go_it0 (q := 4) dX2_tellPrice_1 lk_X2_22 (by decide) (by decide) (Nat.le_of_ble_eq_true rfl) rfl (c_goAhead hG.1 hG.2.2.1 (fun S1 g1 => ?_))
  have hG1 : tpG (tkn (S 4)) := tkn_G hG.1 hG.2.2.1
  have z1 : Tz S S1 (tkn (S 4)) (S 2) := Tz.rf.tk g1
  have q1 : tpG (S1 4) := by rw [z1.1]; exact hG1
  refine go_aloadn0 (q := 5) dX2_tellPrice_4 rfl ?_
  refine go_iconstN (n := 0) (q := 6) dX2_tellPrice_5 rfl ?_
  refine go_bipushN (v := 11) (q := 8) dX2_tellPrice_6 (by decide) rfl ?_
  refine go_it2 (q := 11) dX2_tellPrice_8 lk_X2_75 (by decide) (by decide) (Nat.le_of_ble_eq_true rfl) rfl (c_takeNumber (x := 0) (y := 11) q1 (by decide) (by decide) (fun S2 g2 => ?_))
  rw [z1.1] at g2 ⊢
  have a1 := hG1.2.2.2.1
  refine go_istoren2 (q := 12) dX2_tellPrice_11 rfl (by decide) rfl ?_
  refine go_iloadn2 (q := 13) dX2_tellPrice_12 rfl ?_
  refine go_if_ge (tgt := 18) (q := 16) dX2_tellPrice_13 (by decide) rfl (fun h1 => ?_) (fun h1 => ?_)
  · skip
    have n1 : nb (tkn (S 4)) 0 11 := (tn_ge (by omega)).mp h1
    rw [if_pos n1]
    rw [if_pos n1] at g2
    have hG2 : tpG (tkn (tkn (S 4))) := tkn_G hG1.1 hG1.2.2.1
    have z2 : Tz S S2 (tkn (tkn (S 4))) (S 2) := z1.tk g2
    have q2 : tpG (S2 4) := by rw [z2.1]; exact hG2
    refine go_aloadn0 (q := 19) dX2_tellPrice_18 rfl ?_
    refine go_iconstN (n := 0) (q := 20) dX2_tellPrice_19 rfl ?_
    refine go_bipushN (v := 99) (q := 22) dX2_tellPrice_20 (by decide) rfl ?_
    refine go_it2 (q := 25) dX2_tellPrice_22 lk_X2_75 (by decide) (by decide) (Nat.le_of_ble_eq_true rfl) rfl (c_takeNumber (x := 0) (y := 99) q2 (by decide) (by decide) (fun S3 g3 => ?_))
    rw [z2.1] at g3 ⊢
    have a2 := hG2.2.2.2.1
    refine go_istoren3 (q := 26) dX2_tellPrice_25 rfl (by decide) rfl ?_
    refine go_iloadn3 (q := 27) dX2_tellPrice_26 rfl ?_
    refine go_if_ge (tgt := 32) (q := 30) dX2_tellPrice_27 (by decide) rfl (fun h2 => ?_) (fun h2 => ?_)
    · skip
      have n2 : nb (tkn (tkn (S 4))) 0 99 := (tn_ge (by omega)).mp h2
      rw [if_pos n2]
      rw [if_pos n2] at g3
      have hG3 : tpG (tkn (tkn (tkn (S 4)))) := tkn_G hG2.1 hG2.2.2.1
      have z3 : Tz S S3 (tkn (tkn (tkn (S 4)))) (S 2) := z2.tk g3
      have q3 : tpG (S3 4) := by rw [z3.1]; exact hG3
      have b1 := n1.2.2
      refine go_aloadn1 (q := 33) dX2_tellPrice_32 rfl ?_
      refine go_mg (q := 36) dX2_tellPrice_33 fl_X2_92 (by decide) rfl rfl ?_
      refine go_iloadn2 (q := 37) dX2_tellPrice_36 rfl ?_
      refine go_iloadn3 (q := 38) dX2_tellPrice_37 rfl ?_
      refine go_mst (q := 39) dX2_tellPrice_38 (by decide) (by decide) (show (tkn (S 4)) 1 4 < 12 by omega) rfl ?_
      refine go_iconstN (n := 1) (q := 40) dX2_tellPrice_39 rfl ?_
      exact go_zretT dX2_tellPrice_40 rfl rfl (hQ true _ _ (by unfold ptwo; rw [if_neg (Decidable.not_not.mpr n1), if_neg (Decidable.not_not.mpr n2)]) _ (z3.ch ((Ch.rf.u 5 _ _).to (by rw [z3.2.1]))))
    · skip
      have n2 : ¬ nb (tkn (tkn (S 4))) 0 99 := fun w => h2 ((tn_ge (by omega)).mpr w)
      rw [if_neg n2] at g3
      have zz := z2.tk g3
      refine go_iconstN (n := 0) (q := 31) dX2_tellPrice_30 rfl ?_
      exact go_zretF dX2_tellPrice_31 rfl Bool.false_ne_true (hQ false _ _ (by unfold ptwo; rw [if_neg (Decidable.not_not.mpr n1), if_pos n2]) _ zz)
  · skip
    have n1 : ¬ nb (tkn (S 4)) 0 11 := fun w => h1 ((tn_ge (by omega)).mpr w)
    rw [if_neg n1] at g2
    have zz := z1.tk g2
    refine go_iconstN (n := 0) (q := 17) dX2_tellPrice_16 rfl ?_
    exact go_zretF dX2_tellPrice_17 rfl Bool.false_ne_true (hQ false _ _ (by unfold ptwo; rw [if_pos n1]) _ zz)

set_option maxHeartbeats 4000000 in
set_option maxRecDepth 100000 in
theorem c_tellLoan_44 {S : St} {N : Nat → Nat → Int64} {X : St} {Y : Nat → Int64} {Q : Option Value → AH → Prop} (hc : S 2 13 1 < 8) (hQ : ∀ b T' M', ploan (S 4) (S 2) = (b, T', M') → ∀ S', Tz S S' T' M' → Q (some (.int (bI (b = true)))) (hp S' N X Y)) (n1 : nb (tkn (S 4)) 0 3) (h2 : wd (tkn (tkn (S 4))) 13) (hG3 : tpG (tkn (tkn (tkn (S 4))))) {S3 : St} (z3 : Tz S S3 (tkn (tkn (tkn (S 4)))) (S 2)) (q3 : tpG (S3 4)) (h4 : ¬ ((tkn (tkn (tkn (S 4)))) 1 1 = 2 ∧ (tkn (tkn (tkn (S 4)))) 1 4 = (tkn (S 4)) 1 4)) : Go 7 RX2 cX2_tellLoan 6 (some .boolean) 44 [some (.ref 57), some (.ref (mo 2)), some (.int (nI ((tkn (S 4)) 1 4))), none, none, none] [] (hp S3 N X Y) Q := by
  refine go_aloadn0 (q := 45) dX2_tellLoan_44 rfl ?_
  refine go_iconstN (n := 0) (q := 46) dX2_tellLoan_45 rfl ?_
  refine go_iconstN (n := 3) (q := 47) dX2_tellLoan_46 rfl ?_
  refine go_it2 (q := 50) dX2_tellLoan_47 lk_X2_75 (by decide) (by decide) (Nat.le_of_ble_eq_true rfl) rfl (c_takeNumber (x := 0) (y := 3) q3 (by decide) (by decide) (fun S4 g4 => ?_))
  rw [z3.1] at g4 ⊢
  have a3 := hG3.2.2.2.1
  refine go_istoren3 (q := 51) dX2_tellLoan_50 rfl (by decide) rfl ?_
  refine go_iloadn3 (q := 52) dX2_tellLoan_51 rfl ?_
  refine go_if_ge (tgt := 57) (q := 55) dX2_tellLoan_52 (by decide) rfl (fun h5 => ?_) (fun h5 => ?_)
  · skip
    have n3 : nb (tkn (tkn (tkn (S 4)))) 0 3 := (tn_ge (by omega)).mp h5
    rw [if_pos n3]
    rw [if_pos n3] at g4
    have hG4 : tpG (tkn (tkn (tkn (tkn (S 4))))) := tkn_G hG3.1 hG3.2.2.1
    have z4 : Tz S S4 (tkn (tkn (tkn (tkn (S 4))))) (S 2) := z3.tk g4
    have q4 : tpG (S4 4) := by rw [z4.1]; exact hG4
    refine go_aloadn0 (q := 58) dX2_tellLoan_57 rfl ?_
    refine go_iconstN (n := 1) (q := 59) dX2_tellLoan_58 rfl ?_
    refine go_sipushN (v := 9999) (q := 62) dX2_tellLoan_59 (by decide) rfl ?_
    refine go_it2 (q := 65) dX2_tellLoan_62 lk_X2_75 (by decide) (by decide) (Nat.le_of_ble_eq_true rfl) rfl (c_takeNumber (x := 1) (y := 9999) q4 (by decide) (by decide) (fun S5 g5 => ?_))
    rw [z4.1] at g5 ⊢
    have a4 := hG4.2.2.2.1
    refine go_istore4 (q := 67) dX2_tellLoan_65 rfl (by decide) rfl ?_
    refine go_iload4 (q := 69) dX2_tellLoan_67 rfl ?_
    refine go_if_lt (tgt := 81) (q := 72) dX2_tellLoan_69 (by decide) rfl (fun h6 => ?_) (fun h6 => ?_)
    · skip
      have n4 : ¬ nb (tkn (tkn (tkn (tkn (S 4))))) 1 9999 := (tn_lt (by omega)).mp h6
      rw [if_neg n4] at g5
      have zz := z4.tk g5
      refine go_iconstN (n := 0) (q := 82) dX2_tellLoan_81 rfl ?_
      exact go_zretF dX2_tellLoan_82 rfl Bool.false_ne_true (hQ false _ _ (by unfold ploan; rw [if_neg (Decidable.not_not.mpr n1), if_neg (Decidable.not_not.mpr h2), if_neg h4, if_neg (Decidable.not_not.mpr n3), if_pos n4]) _ zz)
    · skip
      have n4 : nb (tkn (tkn (tkn (tkn (S 4))))) 1 9999 := Decidable.not_not.mp (fun w => h6 ((tn_lt (by omega)).mpr w))
      rw [if_pos n4]
      rw [if_pos n4] at g5
      have hG5 : tpG (tkn (tkn (tkn (tkn (tkn (S 4)))))) := tkn_G hG4.1 hG4.2.2.1
      have z5 : Tz S S5 (tkn (tkn (tkn (tkn (tkn (S 4)))))) (S 2) := z4.tk g5
      have q5 : tpG (S5 4) := by rw [z5.1]; exact hG5
      refine go_aloadn0 (q := 73) dX2_tellLoan_72 rfl ?_
      refine go_ldcS 14 (by decide) dX2_tellLoan_73 ⟨rfl, rfl⟩ rfl ?_
      refine go_it1 (q := 78) dX2_tellLoan_75 lk_X2_72 (by decide) (by decide) (Nat.le_of_ble_eq_true rfl) rfl (c_takeWord (j := 14) q5 (by decide) (fun S6 g6 => ?_))
      rw [z5.1] at g6 ⊢
      refine go_ifneB (tgt := 83) (q := 81) dX2_tellLoan_78 (by decide) rfl (fun h7 => ?_) (fun h7 => ?_)
      · skip
        rw [if_pos h7] at g6
        have hG6 : tpG (tkn (tkn (tkn (tkn (tkn (tkn (S 4))))))) := tkn_G hG5.1 hG5.2.2.1
        have z6 : Tz S S6 (tkn (tkn (tkn (tkn (tkn (tkn (S 4))))))) (S 2) := z5.tk g6
        have q6 : tpG (S6 4) := by rw [z6.1]; exact hG6
        refine go_aloadn0 (q := 84) dX2_tellLoan_83 rfl ?_
        refine go_iconstN (n := 1) (q := 85) dX2_tellLoan_84 rfl ?_
        refine go_bipushN (v := 120) (q := 87) dX2_tellLoan_85 (by decide) rfl ?_
        refine go_it2 (q := 90) dX2_tellLoan_87 lk_X2_75 (by decide) (by decide) (Nat.le_of_ble_eq_true rfl) rfl (c_takeNumber (x := 1) (y := 120) q6 (by decide) (by decide) (fun S7 g7 => ?_))
        rw [z6.1] at g7 ⊢
        have a6 := hG6.2.2.2.1
        refine go_istore5 (q := 92) dX2_tellLoan_90 rfl (by decide) rfl ?_
        refine go_iload5 (q := 94) dX2_tellLoan_92 rfl ?_
        refine go_if_ge (tgt := 99) (q := 97) dX2_tellLoan_94 (by decide) rfl (fun h8 => ?_) (fun h8 => ?_)
        · skip
          have n6 : nb (tkn (tkn (tkn (tkn (tkn (tkn (S 4))))))) 1 120 := (tn_ge (by omega)).mp h8
          rw [if_pos n6]
          rw [if_pos n6] at g7
          have zz := z6.tk g7
          refine go_aloadn1 (q := 100) dX2_tellLoan_99 rfl ?_
          refine go_iloadn2 (q := 101) dX2_tellLoan_100 rfl ?_
          refine go_iloadn3 (q := 102) dX2_tellLoan_101 rfl ?_
          refine go_iload4 (q := 104) dX2_tellLoan_102 rfl ?_
          refine go_iload5 (q := 106) dX2_tellLoan_104 rfl ?_
          refine go_im4 (q := 109) dX2_tellLoan_106 lk_X2_102 (by decide) (by decide) (Nat.le_of_ble_eq_true rfl) (by decide) rfl (c_addLoan (k := 2) (by decide) (by rw [zz.2.1]; exact hc) (fun S8 g8 => ?_))
          rw [zz.2.1] at g8
          refine go_pop (q := 110) dX2_tellLoan_109 rfl rfl ?_
          refine go_iconstN (n := 1) (q := 111) dX2_tellLoan_110 rfl ?_
          exact go_zretT dX2_tellLoan_111 rfl rfl (hQ true _ _ (by unfold ploan; rw [if_neg (Decidable.not_not.mpr n1), if_neg (Decidable.not_not.mpr h2), if_neg h4, if_neg (Decidable.not_not.mpr n3), if_neg (Decidable.not_not.mpr n4), if_neg (Decidable.not_not.mpr h7), if_neg (Decidable.not_not.mpr n6)]) _ (zz.ch g8))
        · skip
          have n6 : ¬ nb (tkn (tkn (tkn (tkn (tkn (tkn (S 4))))))) 1 120 := fun w => h8 ((tn_ge (by omega)).mpr w)
          rw [if_neg n6] at g7
          have zz := z6.tk g7
          refine go_iconstN (n := 0) (q := 98) dX2_tellLoan_97 rfl ?_
          exact go_zretF dX2_tellLoan_98 rfl Bool.false_ne_true (hQ false _ _ (by unfold ploan; rw [if_neg (Decidable.not_not.mpr n1), if_neg (Decidable.not_not.mpr h2), if_neg h4, if_neg (Decidable.not_not.mpr n3), if_neg (Decidable.not_not.mpr n4), if_neg (Decidable.not_not.mpr h7), if_pos n6]) _ zz)
      · skip
        rw [if_neg h7] at g6
        have zz := z5.tk g6
        refine go_iconstN (n := 0) (q := 82) dX2_tellLoan_81 rfl ?_
        exact go_zretF dX2_tellLoan_82 rfl Bool.false_ne_true (hQ false _ _ (by unfold ploan; rw [if_neg (Decidable.not_not.mpr n1), if_neg (Decidable.not_not.mpr h2), if_neg h4, if_neg (Decidable.not_not.mpr n3), if_neg (Decidable.not_not.mpr n4), if_pos h7]) _ zz)
  · skip
    have n3 : ¬ nb (tkn (tkn (tkn (S 4)))) 0 3 := fun w => h5 ((tn_ge (by omega)).mpr w)
    rw [if_neg n3] at g4
    have zz := z3.tk g4
    refine go_iconstN (n := 0) (q := 56) dX2_tellLoan_55 rfl ?_
    exact go_zretF dX2_tellLoan_56 rfl Bool.false_ne_true (hQ false _ _ (by unfold ploan; rw [if_neg (Decidable.not_not.mpr n1), if_neg (Decidable.not_not.mpr h2), if_neg h4, if_pos n3]) _ zz)

set_option maxHeartbeats 4000000 in
set_option maxRecDepth 100000 in
theorem c_tellLoan {S : St} {N : Nat → Nat → Int64} {X : St} {Y : Nat → Int64} {Q : Option Value → AH → Prop} (hG : tpG (S 4)) (hc : S 2 13 1 < 8) (hQ : ∀ b T' M', ploan (S 4) (S 2) = (b, T', M') → ∀ S', Tz S S' T' M' → Q (some (.int (bI (b = true)))) (hp S' N X Y)) : Cn 7 yX2_tellLoan cX2_tellLoan 6 (some .boolean) [.ref 57, .ref (mo 2)] (hp S N X Y) Q := by
  refine cn_of (own := RX2) (lo := [some (.ref 57), some (.ref (mo 2)), none, none, none, none]) 4 rfl (by decide +kernel) rfl (Nat.le_of_ble_eq_true rfl) ?_
  refine go_aloadn0 (q := 1) dX2_tellLoan_0 rfl ?_
  refine go_it0 (q := 4) dX2_tellLoan_1 lk_X2_22 (by decide) (by decide) (Nat.le_of_ble_eq_true rfl) rfl (c_goAhead hG.1 hG.2.2.1 (fun S1 g1 => ?_))
  have hG1 : tpG (tkn (S 4)) := tkn_G hG.1 hG.2.2.1
  have z1 : Tz S S1 (tkn (S 4)) (S 2) := Tz.rf.tk g1
  have q1 : tpG (S1 4) := by rw [z1.1]; exact hG1
  refine go_aloadn0 (q := 5) dX2_tellLoan_4 rfl ?_
  refine go_iconstN (n := 0) (q := 6) dX2_tellLoan_5 rfl ?_
  refine go_iconstN (n := 3) (q := 7) dX2_tellLoan_6 rfl ?_
  refine go_it2 (q := 10) dX2_tellLoan_7 lk_X2_75 (by decide) (by decide) (Nat.le_of_ble_eq_true rfl) rfl (c_takeNumber (x := 0) (y := 3) q1 (by decide) (by decide) (fun S2 g2 => ?_))
  rw [z1.1] at g2 ⊢
  have a1 := hG1.2.2.2.1
  refine go_istoren2 (q := 11) dX2_tellLoan_10 rfl (by decide) rfl ?_
  refine go_iloadn2 (q := 12) dX2_tellLoan_11 rfl ?_
  refine go_if_lt (tgt := 24) (q := 15) dX2_tellLoan_12 (by decide) rfl (fun h1 => ?_) (fun h1 => ?_)
  · skip
    have n1 : ¬ nb (tkn (S 4)) 0 3 := (tn_lt (by omega)).mp h1
    rw [if_neg n1] at g2
    have zz := z1.tk g2
    refine go_iconstN (n := 0) (q := 25) dX2_tellLoan_24 rfl ?_
    exact go_zretF dX2_tellLoan_25 rfl Bool.false_ne_true (hQ false _ _ (by unfold ploan; rw [if_pos n1]) _ zz)
  · skip
    have n1 : nb (tkn (S 4)) 0 3 := Decidable.not_not.mp (fun w => h1 ((tn_lt (by omega)).mpr w))
    rw [if_pos n1]
    rw [if_pos n1] at g2
    have b1 := n1.2.2
    have hG2 : tpG (tkn (tkn (S 4))) := tkn_G hG1.1 hG1.2.2.1
    have z2 : Tz S S2 (tkn (tkn (S 4))) (S 2) := z1.tk g2
    have q2 : tpG (S2 4) := by rw [z2.1]; exact hG2
    refine go_aloadn0 (q := 16) dX2_tellLoan_15 rfl ?_
    refine go_ldcS 13 (by decide) dX2_tellLoan_16 ⟨rfl, rfl⟩ rfl ?_
    refine go_it1 (q := 21) dX2_tellLoan_18 lk_X2_72 (by decide) (by decide) (Nat.le_of_ble_eq_true rfl) rfl (c_takeWord (j := 13) q2 (by decide) (fun S3 g3 => ?_))
    rw [z2.1] at g3 ⊢
    refine go_ifneB (tgt := 26) (q := 24) dX2_tellLoan_21 (by decide) rfl (fun h2 => ?_) (fun h2 => ?_)
    · skip
      rw [if_pos h2] at g3
      have hG3 : tpG (tkn (tkn (tkn (S 4)))) := tkn_G hG2.1 hG2.2.2.1
      have z3 : Tz S S3 (tkn (tkn (tkn (S 4)))) (S 2) := z2.tk g3
      have q3 : tpG (S3 4) := by rw [z3.1]; exact hG3
      have a3 := hG3.2.2.2.1
      have k3 := hG3.2.2.2.2
      refine go_aloadn0 (q := 27) dX2_tellLoan_26 rfl ?_
      refine go_tg (q := 30) dX2_tellLoan_27 fl_X2_32 rfl rfl ?_
      rw [z3.1]
      refine go_iconstN (n := 2) (q := 31) dX2_tellLoan_30 rfl ?_
      refine go_icmp_neN (tgt := 44) (q := 34) dX2_tellLoan_31 (by decide) rfl (by omega) (by omega) (fun h3 => ?_) (fun h3 => ?_)
      · skip
        exact c_tellLoan_44 hc hQ n1 h2 hG3 z3 q3 (fun w => h3 w.1)
      · skip
        refine go_aloadn0 (q := 35) dX2_tellLoan_34 rfl ?_
        refine go_tg (q := 38) dX2_tellLoan_35 fl_X2_97 rfl rfl ?_
        rw [z3.1]
        refine go_iloadn2 (q := 39) dX2_tellLoan_38 rfl ?_
        refine go_icmp_neN (tgt := 44) (q := 42) dX2_tellLoan_39 (by decide) rfl (by omega) (by omega) (fun h3b => ?_) (fun h3b => ?_)
        · skip
          exact c_tellLoan_44 hc hQ n1 h2 hG3 z3 q3 (fun w => h3b w.2)
        · skip
          refine go_iconstN (n := 0) (q := 43) dX2_tellLoan_42 rfl ?_
          exact go_zretF dX2_tellLoan_43 rfl Bool.false_ne_true (hQ false _ _ (by unfold ploan; rw [if_neg (Decidable.not_not.mpr n1), if_neg (Decidable.not_not.mpr h2), if_pos ⟨h3, h3b⟩]) _ z3)
    · skip
      rw [if_neg h2] at g3
      have zz := z2.tk g3
      refine go_iconstN (n := 0) (q := 25) dX2_tellLoan_24 rfl ?_
      exact go_zretF dX2_tellLoan_25 rfl Bool.false_ne_true (hQ false _ _ (by unfold ploan; rw [if_neg (Decidable.not_not.mpr n1), if_pos h2]) _ zz)
