set_option maxHeartbeats 4000000 in
set_option maxRecDepth 100000 in
theorem c_max {h : AH} {Q : Option Value → AH → Prop} {x y : Int32} (hQ : Q (some (.int (if x < y then y else x))) h) : Cn 1 yJ9_max_7cf53 cJ9_max_7cf53 2 (some .int) [.int x, .int y] h Q := by
  refine cn_ofF (own := RJ9) (lo := [some (.int x), some (.int y)]) 0 rfl (by decide +kernel) rfl (Nat.le_of_ble_eq_true rfl) ?_
  refine go_iloadn0 (q := 1) dJ9_max_7cf53_0 rfl ?_
  refine go_iloadn1 (q := 2) dJ9_max_7cf53_1 rfl ?_
  refine go_icmp_lt (tgt := 9) (q := 5) dJ9_max_7cf53_2 (by decide) rfl (fun hc => ?_) (fun hc => ?_)
  · skip
    refine go_iloadn1 (q := 10) dJ9_max_7cf53_9 rfl ?_
    exact go_iretE dJ9_max_7cf53_10 rfl (if_pos hc) hQ
  · skip
    refine go_iloadn0 (q := 6) dJ9_max_7cf53_5 rfl ?_
    refine go_goto (tgt := 10) dJ9_max_7cf53_6 (by decide) ?_
    exact go_iretE dJ9_max_7cf53_10 rfl (if_neg hc) hQ

set_option maxHeartbeats 4000000 in
set_option maxRecDepth 100000 in
theorem c_min {h : AH} {Q : Option Value → AH → Prop} {x y : Int32} (hQ : Q (some (.int (if y < x then y else x))) h) : Cn 1 yJ9_min_7cf53 cJ9_min_7cf53 2 (some .int) [.int x, .int y] h Q := by
  refine cn_ofF (own := RJ9) (lo := [some (.int x), some (.int y)]) 0 rfl (by decide +kernel) rfl (Nat.le_of_ble_eq_true rfl) ?_
  refine go_iloadn0 (q := 1) dJ9_min_7cf53_0 rfl ?_
  refine go_iloadn1 (q := 2) dJ9_min_7cf53_1 rfl ?_
  refine go_icmp_gt (tgt := 9) (q := 5) dJ9_min_7cf53_2 (by decide) rfl (fun hc => ?_) (fun hc => ?_)
  · skip
    refine go_iloadn1 (q := 10) dJ9_min_7cf53_9 rfl ?_
    exact go_iretE dJ9_min_7cf53_10 rfl (if_pos hc) hQ
  · skip
    refine go_iloadn0 (q := 6) dJ9_min_7cf53_5 rfl ?_
    refine go_goto (tgt := 10) dJ9_min_7cf53_6 (by decide) ?_
    exact go_iretE dJ9_min_7cf53_10 rfl (if_neg hc) hQ

theorem maxN {x y : Nat} (hx : x < 2 ^ 31) (hy : y < 2 ^ 31) : (if nI x < nI y then nI y else nI x) = nI (max x y) := by
  by_cases h : x < y
  · rw [if_pos (nI_lt h hy), Nat.max_eq_right (by omega)]
  · rw [if_neg (nI_nlt (by omega) hx), Nat.max_eq_left (by omega)]
theorem minN {x y : Nat} (hx : x < 2 ^ 31) (hy : y < 2 ^ 31) : (if nI y < nI x then nI y else nI x) = nI (min x y) := by
  by_cases h : y < x
  · rw [if_pos (nI_lt h hx), Nat.min_eq_right (by omega)]
  · rw [if_neg (nI_nlt (by omega) hy), Nat.min_eq_left (by omega)]

set_option maxHeartbeats 4000000 in
set_option maxRecDepth 100000 in
theorem c_season {S : St} {N : Nat → Nat → Int64} {X : St} {Y : Nat → Int64} {Q : Option Value → AH → Prop} {k : Nat} (hk : k < 4) (hw : WF (S k)) (hQ : Q (some (.int (nI (sea (S k))))) (hp S N X Y)) : Cn 1 yX0_season cX0_season 1 (some .int) [.ref (mo k)] (hp S N X Y) Q := by
  have hm := hw.mo
  refine cn_of (own := RX0) (lo := [some (.ref (mo k))]) 0 rfl (by decide +kernel) rfl (Nat.le_of_ble_eq_true rfl) ?_
  refine go_aloadn0 (q := 1) dX0_season_0 rfl ?_
  refine go_mg (q := 4) dX0_season_1 fl_X0_58 hk rfl rfl ?_
  refine go_bipushN (v := 12) (q := 6) dX0_season_4 (by decide) rfl ?_
  refine go_iremN (q := 7) dX0_season_6 (by decide) (by omega) (by decide) rfl ?_
  exact go_iret dX0_season_7 rfl hQ

set_option maxHeartbeats 4000000 in
set_option maxRecDepth 100000 in
theorem c_isPlant {S : St} {N : Nat → Nat → Int64} {X : St} {Y : Nat → Int64} {Q : Option Value → AH → Prop} {k : Nat} (hk : k < 4) (hw : WF (S k)) (hQ : Q (some (.int (bI (2 ≤ sea (S k) ∧ sea (S k) ≤ 5)))) (hp S N X Y)) : Cn 2 yX0_isPlantingTime cX0_isPlantingTime 1 (some .boolean) [.ref (mo k)] (hp S N X Y) Q := by
  have hs := sea_lt (S k)
  refine cn_of (own := RX0) (lo := [some (.ref (mo k))]) 0 rfl (by decide +kernel) rfl (Nat.le_of_ble_eq_true rfl) ?_
  refine go_aloadn0 (q := 1) dX0_isPlantingTime_0 rfl ?_
  refine go_im0 (q := 4) dX0_isPlantingTime_1 lk_X0_84 (by decide) (by decide) (Nat.le_of_ble_eq_true rfl) hk rfl (c_season hk hw ?_)
  refine go_iconstN (n := 2) (q := 5) dX0_isPlantingTime_4 rfl ?_
  refine go_icmp_ltN (tgt := 20) (q := 8) dX0_isPlantingTime_5 (by decide) rfl (by omega) (by omega) (fun h1 => ?_) (fun h1 => ?_)
  · skip
    refine go_iconstN (n := 0) (q := 21) dX0_isPlantingTime_20 rfl ?_
    exact go_zret0 dX0_isPlantingTime_21 rfl (by omega) hQ
  · skip
    refine go_aloadn0 (q := 9) dX0_isPlantingTime_8 rfl ?_
    refine go_im0 (q := 12) dX0_isPlantingTime_9 lk_X0_84 (by decide) (by decide) (Nat.le_of_ble_eq_true rfl) hk rfl (c_season hk hw ?_)
    refine go_iconstN (n := 5) (q := 13) dX0_isPlantingTime_12 rfl ?_
    refine go_icmp_gtN (tgt := 20) (q := 16) dX0_isPlantingTime_13 (by decide) rfl (by omega) (by omega) (fun h2 => ?_) (fun h2 => ?_)
    · skip
      refine go_iconstN (n := 0) (q := 21) dX0_isPlantingTime_20 rfl ?_
      exact go_zret0 dX0_isPlantingTime_21 rfl (by omega) hQ
    · skip
      refine go_iconstN (n := 1) (q := 17) dX0_isPlantingTime_16 rfl ?_
      refine go_goto (tgt := 21) dX0_isPlantingTime_17 (by decide) ?_
      exact go_zret1 dX0_isPlantingTime_21 rfl (by omega) hQ

set_option maxHeartbeats 4000000 in
set_option maxRecDepth 100000 in
theorem c_isUnder {h : AH} {Q : Option Value → AH → Prop} {a b : Nat} (ha : a ≤ 5) (hb : b ≤ 5) (hQ : Q (some (.int (bI (isU a b)))) h) : Cn 1 yX0_isUnder cX0_isUnder 2 (some .boolean) [.int (nI a), .int (nI b)] h Q := by
  refine cn_of (own := RX0) (lo := [some (.int (nI a)), some (.int (nI b))]) 0 rfl (by decide +kernel) rfl (Nat.le_of_ble_eq_true rfl) ?_
  refine go_iloadn0 (q := 1) dX0_isUnder_0 rfl ?_
  refine go_iloadn1 (q := 2) dX0_isUnder_1 rfl ?_
  refine go_icmp_eqN (tgt := 29) (q := 5) dX0_isUnder_2 (by decide) rfl (by omega) (by omega) (fun hc => ?_) (fun hc => ?_)
  · skip
    refine go_iconstN (n := 1) (q := 30) dX0_isUnder_29 rfl ?_
    refine go_goto (tgt := 34) dX0_isUnder_30 (by decide) ?_
    exact go_zret1 dX0_isUnder_34 rfl (by omega) hQ
  · skip
    refine go_iloadn1 (q := 6) dX0_isUnder_5 rfl ?_
    refine go_if_eqN (tgt := 29) (q := 9) dX0_isUnder_6 (by decide) rfl (by omega) (fun hc => ?_) (fun hc => ?_)
    · skip
      refine go_iconstN (n := 1) (q := 30) dX0_isUnder_29 rfl ?_
      refine go_goto (tgt := 34) dX0_isUnder_30 (by decide) ?_
      exact go_zret1 dX0_isUnder_34 rfl (by omega) hQ
    · skip
      refine go_iloadn0 (q := 10) dX0_isUnder_9 rfl ?_
      refine go_iconstN (n := 4) (q := 11) dX0_isUnder_10 rfl ?_
      refine go_icmp_neN (tgt := 19) (q := 14) dX0_isUnder_11 (by decide) rfl (by omega) (by omega) (fun hc => ?_) (fun hc => ?_)
      · skip
        refine go_iloadn0 (q := 20) dX0_isUnder_19 rfl ?_
        refine go_iconstN (n := 5) (q := 21) dX0_isUnder_20 rfl ?_
        refine go_icmp_neN (tgt := 33) (q := 24) dX0_isUnder_21 (by decide) rfl (by omega) (by omega) (fun hc => ?_) (fun hc => ?_)
        · skip
          refine go_iconstN (n := 0) (q := 34) dX0_isUnder_33 rfl ?_
          exact go_zret0 dX0_isUnder_34 rfl (by omega) hQ
        · skip
          refine go_iloadn1 (q := 25) dX0_isUnder_24 rfl ?_
          refine go_iconstN (n := 1) (q := 26) dX0_isUnder_25 rfl ?_
          refine go_icmp_neN (tgt := 33) (q := 29) dX0_isUnder_26 (by decide) rfl (by omega) (by omega) (fun hc => ?_) (fun hc => ?_)
          · skip
            refine go_iconstN (n := 0) (q := 34) dX0_isUnder_33 rfl ?_
            exact go_zret0 dX0_isUnder_34 rfl (by omega) hQ
          · skip
            refine go_iconstN (n := 1) (q := 30) dX0_isUnder_29 rfl ?_
            refine go_goto (tgt := 34) dX0_isUnder_30 (by decide) ?_
            exact go_zret1 dX0_isUnder_34 rfl (by omega) hQ
      · skip
        refine go_iloadn1 (q := 15) dX0_isUnder_14 rfl ?_
        refine go_iconstN (n := 2) (q := 16) dX0_isUnder_15 rfl ?_
        refine go_icmp_eqN (tgt := 29) (q := 19) dX0_isUnder_16 (by decide) rfl (by omega) (by omega) (fun hc => ?_) (fun hc => ?_)
        · skip
          refine go_iconstN (n := 1) (q := 30) dX0_isUnder_29 rfl ?_
          refine go_goto (tgt := 34) dX0_isUnder_30 (by decide) ?_
          exact go_zret1 dX0_isUnder_34 rfl (by omega) hQ
        · skip
          refine go_iloadn0 (q := 20) dX0_isUnder_19 rfl ?_
          refine go_iconstN (n := 5) (q := 21) dX0_isUnder_20 rfl ?_
          refine go_icmp_neN (tgt := 33) (q := 24) dX0_isUnder_21 (by decide) rfl (by omega) (by omega) (fun hc => ?_) (fun hc => ?_)
          · skip
            refine go_iconstN (n := 0) (q := 34) dX0_isUnder_33 rfl ?_
            exact go_zret0 dX0_isUnder_34 rfl (by omega) hQ
          · skip
            refine go_iloadn1 (q := 25) dX0_isUnder_24 rfl ?_
            refine go_iconstN (n := 1) (q := 26) dX0_isUnder_25 rfl ?_
            refine go_icmp_neN (tgt := 33) (q := 29) dX0_isUnder_26 (by decide) rfl (by omega) (by omega) (fun hc => ?_) (fun hc => ?_)
            · skip
              refine go_iconstN (n := 0) (q := 34) dX0_isUnder_33 rfl ?_
              exact go_zret0 dX0_isUnder_34 rfl (by omega) hQ
            · skip
              refine go_iconstN (n := 1) (q := 30) dX0_isUnder_29 rfl ?_
              refine go_goto (tgt := 34) dX0_isUnder_30 (by decide) ?_
              exact go_zret1 dX0_isUnder_34 rfl (by omega) hQ

set_option maxHeartbeats 4000000 in
set_option maxRecDepth 100000 in
theorem c_shrinks_15 {h : AH} {Q : Option Value → AH → Prop} {kd s p : Nat} (hkd : kd ≤ 5) (hs : s < 12) (hp0 : plainS s = p) (hp3 : p ≤ 3) (hQ : Q (some (.int (nI (shr kd s)))) h) : Go 1 RX0 cX0_shrinks 3 (some .int) 15 [some (.int (nI kd)), some (.int (nI s)), none] [.int (nI p)] h Q := by
  refine go_istoren2 (q := 16) dX0_shrinks_15 rfl (by decide) rfl ?_
  refine go_iloadn0 (q := 17) dX0_shrinks_16 rfl ?_
  rcases (show kd = 0 ∨ kd = 1 ∨ kd = 2 ∨ kd = 3 ∨ kd = 4 ∨ kd = 5 by omega) with rfl | rfl | rfl | rfl | rfl | rfl
  · skip
    refine go_tableOut (tgt := 80) dX0_shrinks_17 (by decide) (by decide) ?_
    refine go_iloadn2 (q := 81) dX0_shrinks_80 rfl ?_
    exact go_iretN dX0_shrinks_81 rfl (show shr 0 s = p by simp [shr, hp0]) hQ
  · skip
    refine go_tableIn (off := 35) (tgt := 52) dX0_shrinks_17 (by decide) (by decide) (by decide) (by decide) ?_
    refine go_iloadn2 (q := 53) dX0_shrinks_52 rfl ?_
    refine go_iconstN (n := 3) (q := 54) dX0_shrinks_53 rfl ?_
    refine go_idivN (q := 55) dX0_shrinks_54 (by decide) (by omega) (by decide) rfl ?_
    exact go_iretN dX0_shrinks_55 rfl (show shr 1 s = p / 3 by simp [shr, hp0]) hQ
  · skip
    refine go_tableIn (off := 39) (tgt := 56) dX0_shrinks_17 (by decide) (by decide) (by decide) (by decide) ?_
    refine go_iconstN (n := 2) (q := 57) dX0_shrinks_56 rfl ?_
    refine go_iloadn2 (q := 58) dX0_shrinks_57 rfl ?_
    refine go_imulN (q := 59) dX0_shrinks_58 rfl ?_
    exact go_iretN dX0_shrinks_59 rfl (show shr 2 s = 2 * p by simp [shr, hp0]) hQ
  · skip
    refine go_tableIn (off := 63) (tgt := 80) dX0_shrinks_17 (by decide) (by decide) (by decide) (by decide) ?_
    refine go_iloadn2 (q := 81) dX0_shrinks_80 rfl ?_
    exact go_iretN dX0_shrinks_81 rfl (show shr 3 s = p by simp [shr, hp0]) hQ
  · skip
    refine go_tableIn (off := 43) (tgt := 60) dX0_shrinks_17 (by decide) (by decide) (by decide) (by decide) ?_
    refine go_iconstN (n := 2) (q := 61) dX0_shrinks_60 rfl ?_
    refine go_iloadn2 (q := 62) dX0_shrinks_61 rfl ?_
    refine go_imulN (q := 63) dX0_shrinks_62 rfl ?_
    refine go_iconstN (n := 1) (q := 64) dX0_shrinks_63 rfl ?_
    refine go_iaddN (q := 65) dX0_shrinks_64 rfl ?_
    exact go_iretN dX0_shrinks_65 rfl (show shr 4 s = 2 * p + 1 by simp [shr, hp0]) hQ
  · skip
    refine go_tableIn (off := 49) (tgt := 66) dX0_shrinks_17 (by decide) (by decide) (by decide) (by decide) ?_
    refine go_iloadn1 (q := 67) dX0_shrinks_66 rfl ?_
    refine go_bipushN (v := 9) (q := 69) dX0_shrinks_67 (by decide) rfl ?_
    refine go_icmp_ltN (tgt := 76) (q := 72) dX0_shrinks_69 (by decide) rfl (by omega) (by omega) (fun hc => ?_) (fun hc => ?_)
    · skip
      refine go_iloadn2 (q := 77) dX0_shrinks_76 rfl ?_
      refine go_iconstN (n := 3) (q := 78) dX0_shrinks_77 rfl ?_
      refine go_idivN (q := 79) dX0_shrinks_78 (by decide) (by omega) (by decide) rfl ?_
      exact go_iretN dX0_shrinks_79 rfl (show shr 5 s = p / 3 by simp [shr, hp0]) hQ
    · skip
      refine go_iconstN (n := 0) (q := 73) dX0_shrinks_72 rfl ?_
      refine go_goto (tgt := 79) dX0_shrinks_73 (by decide) ?_
      exact go_iretN dX0_shrinks_79 rfl (show shr 5 s = 0 by unfold shr plainS; rw [if_pos (Or.inr rfl), if_neg (by omega)]) hQ

set_option maxHeartbeats 4000000 in
set_option maxRecDepth 100000 in
theorem c_shrinks {h : AH} {Q : Option Value → AH → Prop} {kd s : Nat} (hkd : kd ≤ 5) (hs : s < 12) (hQ : Q (some (.int (nI (shr kd s)))) h) : Cn 1 yX0_shrinks cX0_shrinks 3 (some .int) [.int (nI kd), .int (nI s)] h Q := by
  refine cn_of (own := RX0) (lo := [some (.int (nI kd)), some (.int (nI s)), none]) 1 rfl (by decide +kernel) rfl (Nat.le_of_ble_eq_true rfl) ?_
  refine go_iloadn1 (q := 1) dX0_shrinks_0 rfl ?_
  refine go_iconstN (n := 2) (q := 2) dX0_shrinks_1 rfl ?_
  refine go_icmp_ltN (tgt := 14) (q := 5) dX0_shrinks_2 (by decide) rfl (by omega) (by omega) (fun hc => ?_) (fun hc => ?_)
  · skip
    refine go_iconstN (n := 1) (q := 15) dX0_shrinks_14 rfl ?_
    exact c_shrinks_15 hkd hs (if_neg (by omega)) (by decide) hQ
  · skip
    refine go_iloadn1 (q := 6) dX0_shrinks_5 rfl ?_
    refine go_iconstN (n := 4) (q := 7) dX0_shrinks_6 rfl ?_
    refine go_icmp_gtN (tgt := 14) (q := 10) dX0_shrinks_7 (by decide) rfl (by omega) (by omega) (fun hc => ?_) (fun hc => ?_)
    · skip
      refine go_iconstN (n := 1) (q := 15) dX0_shrinks_14 rfl ?_
      exact c_shrinks_15 hkd hs (if_neg (by omega)) (by decide) hQ
    · skip
      refine go_iconstN (n := 3) (q := 11) dX0_shrinks_10 rfl ?_
      refine go_goto (tgt := 15) dX0_shrinks_11 (by decide) ?_
      exact c_shrinks_15 hkd hs (if_pos (by omega)) (by decide) hQ

set_option maxHeartbeats 4000000 in
set_option maxRecDepth 100000 in
theorem c_turns {h : AH} {Q : Option Value → AH → Prop} {a : Nat} (ha : a ≤ 5) (hQ : Q (some (.int (bI (¬ blue a)))) h) : Cn 2 yX0_turns cX0_turns 1 (some .boolean) [.int (nI a)] h Q := by
  refine cn_of (own := RX0) (lo := [some (.int (nI a))]) 0 rfl (by decide +kernel) rfl (Nat.le_of_ble_eq_true rfl) ?_
  refine go_iloadn0 (q := 1) dX0_turns_0 rfl ?_
  refine go_iconstN (n := 1) (q := 2) dX0_turns_1 rfl ?_
  refine go_is2_ (q := 5) dX0_turns_2 lk_X0_76 (by decide) (by decide) (Nat.le_of_ble_eq_true rfl) rfl (c_isUnder ha (by decide) ?_)
  refine go_ifneB (tgt := 12) (q := 8) dX0_turns_5 (by decide) rfl (fun hc => ?_) (fun hc => ?_)
  · skip
    refine go_iconstN (n := 0) (q := 13) dX0_turns_12 rfl ?_
    exact go_zret0 dX0_turns_13 rfl (by omega) hQ
  · skip
    refine go_iconstN (n := 1) (q := 9) dX0_turns_8 rfl ?_
    refine go_goto (tgt := 13) dX0_turns_9 (by decide) ?_
    exact go_zret1 dX0_turns_13 rfl (by omega) hQ

set_option maxHeartbeats 4000000 in
set_option maxRecDepth 100000 in
theorem c_yields {h : AH} {Q : Option Value → AH → Prop} {kd s : Nat} (hkd : kd ≤ 5) (hs : s ≤ 9) (hQ : Q (some (.int (nI (yld kd s)))) h) : Cn 2 yX0_yields cX0_yields 3 (some .int) [.int (nI kd), .int (nI s)] h Q := by
  refine cn_of (own := RX0) (lo := [some (.int (nI kd)), some (.int (nI s)), none]) 1 rfl (by decide +kernel) rfl (Nat.le_of_ble_eq_true rfl) ?_
  refine go_iloadn1 (q := 1) dX0_yields_0 rfl ?_
  refine go_iconstN (n := 5) (q := 2) dX0_yields_1 rfl ?_
  refine go_iaddN (q := 3) dX0_yields_2 rfl ?_
  refine go_istoren2 (q := 4) dX0_yields_3 rfl (by decide) rfl ?_
  refine go_iloadn0 (q := 5) dX0_yields_4 rfl ?_
  rcases (show kd = 0 ∨ kd = 1 ∨ kd = 2 ∨ kd = 3 ∨ kd = 4 ∨ kd = 5 by omega) with rfl | rfl | rfl | rfl | rfl | rfl
  · skip
    refine go_tableOut (tgt := 54) dX0_yields_5 (by decide) (by decide) ?_
    refine go_iloadn2 (q := 55) dX0_yields_54 rfl ?_
    exact go_iretN dX0_yields_55 rfl (show yld 0 s = s + 5 by simp [yld]) hQ
  · skip
    refine go_tableIn (off := 39) (tgt := 44) dX0_yields_5 (by decide) (by decide) (by decide) (by decide) ?_
    refine go_iconstN (n := 0) (q := 45) dX0_yields_44 rfl ?_
    refine go_iloadn2 (q := 46) dX0_yields_45 rfl ?_
    refine go_iconstN (n := 4) (q := 47) dX0_yields_46 rfl ?_
    refine go_isubN (q := 48) dX0_yields_47 (by omega) rfl ?_
    refine go_is2_ (q := 51) dX0_yields_48 lk_X0_70 (by decide) (by decide) (Nat.le_of_ble_eq_true rfl) rfl (c_max ?_)
    refine go_st (st' := [.int (nI (s + 5 - 4))]) (by rw [maxN (by omega) (by omega), Nat.zero_max]) ?_
    exact go_iretN dX0_yields_51 rfl (show yld 1 s = s + 5 - 4 by simp [yld]) hQ
  · skip
    refine go_tableIn (off := 49) (tgt := 54) dX0_yields_5 (by decide) (by decide) (by decide) (by decide) ?_
    refine go_iloadn2 (q := 55) dX0_yields_54 rfl ?_
    exact go_iretN dX0_yields_55 rfl (show yld 2 s = s + 5 by simp [yld]) hQ
  · skip
    refine go_tableIn (off := 35) (tgt := 40) dX0_yields_5 (by decide) (by decide) (by decide) (by decide) ?_
    refine go_iloadn2 (q := 41) dX0_yields_40 rfl ?_
    refine go_iconstN (n := 3) (q := 42) dX0_yields_41 rfl ?_
    refine go_iaddN (q := 43) dX0_yields_42 rfl ?_
    exact go_iretN dX0_yields_43 rfl (show yld 3 s = s + 5 + 3 by simp [yld]) hQ
  · skip
    refine go_tableIn (off := 47) (tgt := 52) dX0_yields_5 (by decide) (by decide) (by decide) (by decide) ?_
    refine go_iconstN (n := 0) (q := 53) dX0_yields_52 rfl ?_
    exact go_iretN dX0_yields_53 rfl (show yld 4 s = 0 by simp [yld]) hQ
  · skip
    refine go_tableIn (off := 39) (tgt := 44) dX0_yields_5 (by decide) (by decide) (by decide) (by decide) ?_
    refine go_iconstN (n := 0) (q := 45) dX0_yields_44 rfl ?_
    refine go_iloadn2 (q := 46) dX0_yields_45 rfl ?_
    refine go_iconstN (n := 4) (q := 47) dX0_yields_46 rfl ?_
    refine go_isubN (q := 48) dX0_yields_47 (by omega) rfl ?_
    refine go_is2_ (q := 51) dX0_yields_48 lk_X0_70 (by decide) (by decide) (Nat.le_of_ble_eq_true rfl) rfl (c_max ?_)
    refine go_st (st' := [.int (nI (s + 5 - 4))]) (by rw [maxN (by omega) (by omega), Nat.zero_max]) ?_
    exact go_iretN dX0_yields_51 rfl (show yld 5 s = s + 5 - 4 by simp [yld]) hQ

set_option maxHeartbeats 4000000 in
set_option maxRecDepth 100000 in
theorem c_yieldOf {S : St} {N : Nat → Nat → Int64} {X : St} {Y : Nat → Int64} {Q : Option Value → AH → Prop} {k c : Nat} (hk : k < 4) (hw : WF (S k)) (hc : c < 12) (hQ : Q (some (.int (nI (yld (S k 0 c) (S k 4 (S k 1 c)))))) (hp S N X Y)) : Cn 3 yX0_yieldOf cX0_yieldOf 2 (some .int) [.ref (mo k), .int (nI c)] (hp S N X Y) Q := by
  have h1 := hw.ow c
  refine cn_of (own := RX0) (lo := [some (.ref (mo k)), some (.int (nI c))]) 0 rfl (by decide +kernel) rfl (Nat.le_of_ble_eq_true rfl) ?_
  refine go_aloadn0 (q := 1) dX0_yieldOf_0 rfl ?_
  refine go_mg (q := 4) dX0_yieldOf_1 fl_X0_9 hk rfl rfl ?_
  refine go_iloadn1 (q := 5) dX0_yieldOf_4 rfl ?_
  refine go_mld (q := 6) dX0_yieldOf_5 hk (by decide) hc rfl ?_
  refine go_aloadn0 (q := 7) dX0_yieldOf_6 rfl ?_
  refine go_mg (q := 10) dX0_yieldOf_7 fl_X0_24 hk rfl rfl ?_
  refine go_aloadn0 (q := 11) dX0_yieldOf_10 rfl ?_
  refine go_mg (q := 14) dX0_yieldOf_11 fl_X0_15 hk rfl rfl ?_
  refine go_iloadn1 (q := 15) dX0_yieldOf_14 rfl ?_
  refine go_mld (q := 16) dX0_yieldOf_15 hk (by decide) hc rfl ?_
  refine go_mld (q := 17) dX0_yieldOf_16 hk (by decide) (show _ < 4 by omega) rfl ?_
  refine go_is2_ (q := 20) dX0_yieldOf_17 lk_X0_88 (by decide) (by decide) (Nat.le_of_ble_eq_true rfl) rfl (c_yields (hw.kd c) (hw.so _) ?_)
  exact go_iret dX0_yieldOf_20 rfl hQ

set_option maxHeartbeats 4000000 in
set_option maxRecDepth 100000 in
theorem c_worthOf {S : St} {N : Nat → Nat → Int64} {X : St} {Y : Nat → Int64} {Q : Option Value → AH → Prop} {k c : Nat} (hk : k < 4) (hw : WF (S k)) (hc : c < 12) (hQ : Q (some (.int (nI (wrt (S k) c)))) (hp S N X Y)) : Cn 2 yX0_worthOf cX0_worthOf 2 (some .int) [.ref (mo k), .int (nI c)] (hp S N X Y) Q := by
  refine cn_of (own := RX0) (lo := [some (.ref (mo k)), some (.int (nI c))]) 0 rfl (by decide +kernel) rfl (Nat.le_of_ble_eq_true rfl) ?_
  refine go_aloadn0 (q := 1) dX0_worthOf_0 rfl ?_
  refine go_mg (q := 4) dX0_worthOf_1 fl_X0_21 hk rfl rfl ?_
  refine go_iloadn1 (q := 5) dX0_worthOf_4 rfl ?_
  refine go_mld (q := 6) dX0_worthOf_5 hk (by decide) hc rfl ?_
  refine go_if_neN (tgt := 31) (q := 9) dX0_worthOf_6 (by decide) rfl (by have := hw.st c; omega) (fun hc1 => ?_) (fun hc1 => ?_)
  · skip
    refine go_iconstN (n := 0) (q := 32) dX0_worthOf_31 rfl ?_
    exact go_iretN dX0_worthOf_32 rfl (if_neg hc1) hQ
  · skip
    refine go_aloadn0 (q := 10) dX0_worthOf_9 rfl ?_
    refine go_mg (q := 13) dX0_worthOf_10 fl_X0_18 hk rfl rfl ?_
    refine go_iloadn1 (q := 14) dX0_worthOf_13 rfl ?_
    refine go_mld (q := 15) dX0_worthOf_14 hk (by decide) hc rfl ?_
    refine go_aloadn0 (q := 16) dX0_worthOf_15 rfl ?_
    refine go_mg (q := 19) dX0_worthOf_16 fl_X0_27 hk rfl rfl ?_
    refine go_aloadn0 (q := 20) dX0_worthOf_19 rfl ?_
    refine go_im0 (q := 23) dX0_worthOf_20 lk_X0_84 (by decide) (by decide) (Nat.le_of_ble_eq_true rfl) hk rfl (c_season hk hw ?_)
    refine go_mld (q := 24) dX0_worthOf_23 hk (by decide) (sea_ml _) rfl ?_
    refine go_imulN (q := 25) dX0_worthOf_24 rfl ?_
    refine go_bipushN (v := 10) (q := 27) dX0_worthOf_25 (by decide) rfl ?_
    refine go_idivN (q := 28) dX0_worthOf_27 (by decide) (Nat.lt_of_le_of_lt (Nat.mul_le_mul (hw.sz c) (hw.pr _)) (by decide)) (by decide) rfl ?_
    refine go_goto (tgt := 32) dX0_worthOf_28 (by decide) ?_
    exact go_iretN dX0_worthOf_32 rfl (if_pos hc1) hQ

set_option maxHeartbeats 4000000 in
set_option maxRecDepth 100000 in
theorem c_isSoundOf {S : St} {N : Nat → Nat → Int64} {X : St} {Y : Nat → Int64} {Q : Option Value → AH → Prop} {k c t : Nat} (hk : k < 4) (hw : WF (S k)) (hc : c < 12) (ht : t < 2 ^ 31) (hQ : Q (some (.int (bI (snd (S k) t c)))) (hp S N X Y)) : Cn 1 yX0_isSoundOf cX0_isSoundOf 3 (some .boolean) [.ref (mo k), .int (nI c), .int (nI t)] (hp S N X Y) Q := by
  have h1 := hw.ow c
  have h2 := hw.st c
  refine cn_of (own := RX0) (lo := [some (.ref (mo k)), some (.int (nI c)), some (.int (nI t))]) 0 rfl (by decide +kernel) rfl (Nat.le_of_ble_eq_true rfl) ?_
  refine go_aloadn0 (q := 1) dX0_isSoundOf_0 rfl ?_
  refine go_mg (q := 4) dX0_isSoundOf_1 fl_X0_21 hk rfl rfl ?_
  refine go_iloadn1 (q := 5) dX0_isSoundOf_4 rfl ?_
  refine go_mld (q := 6) dX0_isSoundOf_5 hk (by decide) hc rfl ?_
  refine go_if_neN (tgt := 23) (q := 9) dX0_isSoundOf_6 (by decide) rfl (by omega) (fun h3 => ?_) (fun h3 => ?_)
  · skip
    refine go_iconstN (n := 0) (q := 24) dX0_isSoundOf_23 rfl ?_
    exact go_zret0 dX0_isSoundOf_24 rfl (by omega) hQ
  · skip
    refine go_aloadn0 (q := 10) dX0_isSoundOf_9 rfl ?_
    refine go_mg (q := 13) dX0_isSoundOf_10 fl_X0_15 hk rfl rfl ?_
    refine go_iloadn1 (q := 14) dX0_isSoundOf_13 rfl ?_
    refine go_mld (q := 15) dX0_isSoundOf_14 hk (by decide) hc rfl ?_
    refine go_iloadn2 (q := 16) dX0_isSoundOf_15 rfl ?_
    refine go_icmp_neN (tgt := 23) (q := 19) dX0_isSoundOf_16 (by decide) rfl (by omega) (by omega) (fun h4 => ?_) (fun h4 => ?_)
    · skip
      refine go_iconstN (n := 0) (q := 24) dX0_isSoundOf_23 rfl ?_
      exact go_zret0 dX0_isSoundOf_24 rfl (by omega) hQ
    · skip
      refine go_iconstN (n := 1) (q := 20) dX0_isSoundOf_19 rfl ?_
      refine go_goto (tgt := 24) dX0_isSoundOf_20 (by decide) ?_
      exact go_zret1 dX0_isSoundOf_24 rfl (by omega) hQ

set_option maxHeartbeats 4000000 in
set_option maxRecDepth 100000 in
theorem c_howMany_4 {S : St} {N : Nat → Nat → Int64} {X : St} {Y : Nat → Int64} {Q : Option Value → AH → Prop} {k s : Nat} (hk : k < 4) (hw : WF (S k)) (hs : s < 2 ^ 31) (hQ : Q (some (.int (nI (many (S k) s)))) (hp S N X Y)) : ∀ (n : Nat) (c a : Nat), S k 13 0 - c < n → (c ≤ S k 13 0) → (sm (fun c => if S k 3 c = s then 1 else 0) c = a) → Go 1 RX0 cX0_howMany 4 (some .int) 4 [some (.ref (mo k)), some (.int (nI s)), some (.int (nI a)), some (.int (nI c))] [] (hp S N X Y) Q := by
  intro n
  induction n with
  | zero => intro c a hm; exact absurd hm (Nat.not_lt_zero _)
  | succ n ih =>
    intro c a hm hc ha
    have h1 := hw.co
    have h2 := hw.st c
    refine go_iloadn3 (q := 5) dX0_howMany_4 rfl ?_
    refine go_aloadn0 (q := 6) dX0_howMany_5 rfl ?_
    refine go_mg (q := 9) dX0_howMany_6 fl_X0_51 hk rfl rfl ?_
    refine go_icmp_geN (tgt := 31) (q := 12) dX0_howMany_9 (by decide) rfl (by omega) (by omega) (fun h3 => ?_) (fun h3 => ?_)
    · skip
      refine go_iloadn2 (q := 32) dX0_howMany_31 rfl ?_
      exact go_iretN dX0_howMany_32 rfl (by rw [← ha, show c = S k 13 0 by omega]; rfl) hQ
    · skip
      refine go_aloadn0 (q := 13) dX0_howMany_12 rfl ?_
      refine go_mg (q := 16) dX0_howMany_13 fl_X0_21 hk rfl rfl ?_
      refine go_iloadn3 (q := 17) dX0_howMany_16 rfl ?_
      refine go_mld (q := 18) dX0_howMany_17 hk (by decide) (show c < 12 by omega) rfl ?_
      refine go_iloadn1 (q := 19) dX0_howMany_18 rfl ?_
      refine go_icmp_neN (tgt := 25) (q := 22) dX0_howMany_19 (by decide) rfl (by omega) (by omega) (fun h4 => ?_) (fun h4 => ?_)
      · skip
        refine go_iincN3 (n := 1) (q := 28) dX0_howMany_25 rfl (by decide) rfl ?_
        refine go_goto (tgt := 4) dX0_howMany_28 (by decide) ?_
        exact ih (c + 1) a (by omega) (by omega) (by rw [sm_s, ha, if_neg h4]; rfl)
      · skip
        refine go_iincN2 (n := 1) (q := 25) dX0_howMany_22 rfl (by decide) rfl ?_
        refine go_iincN3 (n := 1) (q := 28) dX0_howMany_25 rfl (by decide) rfl ?_
        refine go_goto (tgt := 4) dX0_howMany_28 (by decide) ?_
        exact ih (c + 1) (a + 1) (by omega) (by omega) (by rw [sm_s, ha, if_pos h4])

set_option maxHeartbeats 4000000 in
set_option maxRecDepth 100000 in
theorem c_howMany {S : St} {N : Nat → Nat → Int64} {X : St} {Y : Nat → Int64} {Q : Option Value → AH → Prop} {k s : Nat} (hk : k < 4) (hw : WF (S k)) (hs : s < 2 ^ 31) (hQ : Q (some (.int (nI (many (S k) s)))) (hp S N X Y)) : Cn 1 yX0_howMany cX0_howMany 4 (some .int) [.ref (mo k), .int (nI s)] (hp S N X Y) Q := by
  refine cn_of (own := RX0) (lo := [some (.ref (mo k)), some (.int (nI s)), none, none]) 2 rfl (by decide +kernel) rfl (Nat.le_of_ble_eq_true rfl) ?_
  refine go_iconstN (n := 0) (q := 1) dX0_howMany_0 rfl ?_
  refine go_istoren2 (q := 2) dX0_howMany_1 rfl (by decide) rfl ?_
  refine go_iconstN (n := 0) (q := 3) dX0_howMany_2 rfl ?_
  refine go_istoren3 (q := 4) dX0_howMany_3 rfl (by decide) rfl ?_
  exact c_howMany_4 hk hw hs hQ (S k 13 0 + 1) 0 0 (by omega) (by omega) rfl

set_option maxHeartbeats 4000000 in
set_option maxRecDepth 100000 in
theorem c_sizeOfAll_4 {S : St} {N : Nat → Nat → Int64} {X : St} {Y : Nat → Int64} {Q : Option Value → AH → Prop} {k : Nat} (hk : k < 4) (hw : WF (S k)) (hQ : Q (some (.int (nI (sizes (S k))))) (hp S N X Y)) : ∀ (n : Nat) (c a : Nat), S k 13 0 - c < n → (c ≤ S k 13 0) → (sm (fun c => S k 2 c) c = a) → Go 1 RX0 cX0_sizeOfAll 3 (some .int) 4 [some (.ref (mo k)), some (.int (nI a)), some (.int (nI c))] [] (hp S N X Y) Q := by
  intro n
  induction n with
  | zero => intro c a hm; exact absurd hm (Nat.not_lt_zero _)
  | succ n ih =>
    intro c a hm hc ha
    have h1 := hw.co
    refine go_iloadn2 (q := 5) dX0_sizeOfAll_4 rfl ?_
    refine go_aloadn0 (q := 6) dX0_sizeOfAll_5 rfl ?_
    refine go_mg (q := 9) dX0_sizeOfAll_6 fl_X0_51 hk rfl rfl ?_
    refine go_icmp_geN (tgt := 27) (q := 12) dX0_sizeOfAll_9 (by decide) rfl (by omega) (by omega) (fun h3 => ?_) (fun h3 => ?_)
    · skip
      refine go_iloadn1 (q := 28) dX0_sizeOfAll_27 rfl ?_
      exact go_iretN dX0_sizeOfAll_28 rfl (by rw [← ha, show c = S k 13 0 by omega]; rfl) hQ
    · skip
      refine go_iloadn1 (q := 13) dX0_sizeOfAll_12 rfl ?_
      refine go_aloadn0 (q := 14) dX0_sizeOfAll_13 rfl ?_
      refine go_mg (q := 17) dX0_sizeOfAll_14 fl_X0_18 hk rfl rfl ?_
      refine go_iloadn2 (q := 18) dX0_sizeOfAll_17 rfl ?_
      refine go_mld (q := 19) dX0_sizeOfAll_18 hk (by decide) (show c < 12 by omega) rfl ?_
      refine go_iaddN (q := 20) dX0_sizeOfAll_19 rfl ?_
      refine go_istoren1 (q := 21) dX0_sizeOfAll_20 rfl (by decide) rfl ?_
      refine go_iincN2 (n := 1) (q := 24) dX0_sizeOfAll_21 rfl (by decide) rfl ?_
      refine go_goto (tgt := 4) dX0_sizeOfAll_24 (by decide) ?_
      exact ih (c + 1) (a + S k 2 c) (by omega) (by omega) (by rw [sm_s, ha])

set_option maxHeartbeats 4000000 in
set_option maxRecDepth 100000 in
theorem c_sizeOfAll {S : St} {N : Nat → Nat → Int64} {X : St} {Y : Nat → Int64} {Q : Option Value → AH → Prop} {k : Nat} (hk : k < 4) (hw : WF (S k)) (hQ : Q (some (.int (nI (sizes (S k))))) (hp S N X Y)) : Cn 1 yX0_sizeOfAll cX0_sizeOfAll 3 (some .int) [.ref (mo k)] (hp S N X Y) Q := by
  refine cn_of (own := RX0) (lo := [some (.ref (mo k)), none, none]) 2 rfl (by decide +kernel) rfl (Nat.le_of_ble_eq_true rfl) ?_
  refine go_iconstN (n := 0) (q := 1) dX0_sizeOfAll_0 rfl ?_
  refine go_istoren1 (q := 2) dX0_sizeOfAll_1 rfl (by decide) rfl ?_
  refine go_iconstN (n := 0) (q := 3) dX0_sizeOfAll_2 rfl ?_
  refine go_istoren2 (q := 4) dX0_sizeOfAll_3 rfl (by decide) rfl ?_
  exact c_sizeOfAll_4 hk hw hQ (S k 13 0 + 1) 0 0 (by omega) (by omega) rfl

set_option maxHeartbeats 4000000 in
set_option maxRecDepth 100000 in
theorem c_soundOf_4 {S : St} {N : Nat → Nat → Int64} {X : St} {Y : Nat → Int64} {Q : Option Value → AH → Prop} {k t : Nat} (hk : k < 4) (hw : WF (S k)) (ht : t < 2 ^ 31) (hQ : Q (some (.int (nI (sets (S k) t)))) (hp S N X Y)) : ∀ (n : Nat) (c a : Nat), S k 13 0 - c < n → (c ≤ S k 13 0) → (setS (fun c => decide (snd (S k) t c)) c = a) → Go 2 RX0 cX0_soundOf 4 (some .int) 4 [some (.ref (mo k)), some (.int (nI t)), some (.int (nI a)), some (.int (nI c))] [] (hp S N X Y) Q := by
  intro n
  induction n with
  | zero => intro c a hm; exact absurd hm (Nat.not_lt_zero _)
  | succ n ih =>
    intro c a hm hc ha
    have h1 := hw.co
    have h2 := setS_lt (fun c => decide (snd (S k) t c)) c
    rw [ha] at h2
    refine go_iloadn3 (q := 5) dX0_soundOf_4 rfl ?_
    refine go_aloadn0 (q := 6) dX0_soundOf_5 rfl ?_
    refine go_mg (q := 9) dX0_soundOf_6 fl_X0_51 hk rfl rfl ?_
    refine go_icmp_geN (tgt := 33) (q := 12) dX0_soundOf_9 (by decide) rfl (by omega) (by omega) (fun h3 => ?_) (fun h3 => ?_)
    · skip
      refine go_iloadn2 (q := 34) dX0_soundOf_33 rfl ?_
      exact go_iretN dX0_soundOf_34 rfl (by rw [← ha, show c = S k 13 0 by omega]; rfl) hQ
    · skip
      refine go_aloadn0 (q := 13) dX0_soundOf_12 rfl ?_
      refine go_iloadn3 (q := 14) dX0_soundOf_13 rfl ?_
      refine go_iloadn1 (q := 15) dX0_soundOf_14 rfl ?_
      refine go_im2 (q := 18) dX0_soundOf_15 lk_X0_91 (by decide) (by decide) (Nat.le_of_ble_eq_true rfl) hk rfl (c_isSoundOf hk hw (by omega) ht ?_)
      refine go_ifeqB (tgt := 27) (q := 21) dX0_soundOf_18 (by decide) rfl (fun h4 => ?_) (fun h4 => ?_)
      · skip
        refine go_iincN3 (n := 1) (q := 30) dX0_soundOf_27 rfl (by decide) rfl ?_
        refine go_goto (tgt := 4) dX0_soundOf_30 (by decide) ?_
        exact ih (c + 1) a (by omega) (by omega) (by rw [setS_s, ha, if_neg (by simpa using h4)]; omega)
      · skip
        refine go_iloadn2 (q := 22) dX0_soundOf_21 rfl ?_
        refine go_iconstN (n := 1) (q := 23) dX0_soundOf_22 rfl ?_
        refine go_iloadn3 (q := 24) dX0_soundOf_23 rfl ?_
        refine go_ishl (q := 25) dX0_soundOf_24 rfl ?_
        refine go_ior (q := 26) dX0_soundOf_25 rfl ?_
        refine go_st (st' := [.int (nI (a + 2 ^ c))]) (by rw [m_or (by omega) h2]) ?_
        refine go_istoren2 (q := 27) dX0_soundOf_26 rfl (by decide) rfl ?_
        refine go_iincN3 (n := 1) (q := 30) dX0_soundOf_27 rfl (by decide) rfl ?_
        refine go_goto (tgt := 4) dX0_soundOf_30 (by decide) ?_
        exact ih (c + 1) (a + 2 ^ c) (by omega) (by omega) (by rw [setS_s, ha, if_pos (by simpa using h4), Nat.one_mul])

set_option maxHeartbeats 4000000 in
set_option maxRecDepth 100000 in
theorem c_soundOf {S : St} {N : Nat → Nat → Int64} {X : St} {Y : Nat → Int64} {Q : Option Value → AH → Prop} {k t : Nat} (hk : k < 4) (hw : WF (S k)) (ht : t < 2 ^ 31) (hQ : Q (some (.int (nI (sets (S k) t)))) (hp S N X Y)) : Cn 2 yX0_soundOf cX0_soundOf 4 (some .int) [.ref (mo k), .int (nI t)] (hp S N X Y) Q := by
  refine cn_of (own := RX0) (lo := [some (.ref (mo k)), some (.int (nI t)), none, none]) 2 rfl (by decide +kernel) rfl (Nat.le_of_ble_eq_true rfl) ?_
  refine go_iconstN (n := 0) (q := 1) dX0_soundOf_0 rfl ?_
  refine go_istoren2 (q := 2) dX0_soundOf_1 rfl (by decide) rfl ?_
  refine go_iconstN (n := 0) (q := 3) dX0_soundOf_2 rfl ?_
  refine go_istoren3 (q := 4) dX0_soundOf_3 rfl (by decide) rfl ?_
  exact c_soundOf_4 hk hw ht hQ (S k 13 0 + 1) 0 0 (by omega) (by omega) rfl

set_option maxHeartbeats 4000000 in
set_option maxRecDepth 100000 in
theorem c_worthOfSet_4 {S : St} {N : Nat → Nat → Int64} {X : St} {Y : Nat → Int64} {Q : Option Value → AH → Prop} {k t : Nat} (hk : k < 4) (hw : WF (S k)) (ht : t < 2 ^ 31) (hQ : Q (some (.int (nI (wset (S k) t)))) (hp S N X Y)) : ∀ (n : Nat) (c a : Nat), S k 13 0 - c < n → (c ≤ S k 13 0) → (sm (fun c => if bit t c = 1 then wrt (S k) c else 0) c = a) → Go 3 RX0 cX0_worthOfSet 4 (some .int) 4 [some (.ref (mo k)), some (.int (nI t)), some (.int (nI a)), some (.int (nI c))] [] (hp S N X Y) Q := by
  intro n
  induction n with
  | zero => intro c a hm; exact absurd hm (Nat.not_lt_zero _)
  | succ n ih =>
    intro c a hm hc ha
    have h1 := hw.co
    have h5 := bit_01 t c
    refine go_iloadn3 (q := 5) dX0_worthOfSet_4 rfl ?_
    refine go_aloadn0 (q := 6) dX0_worthOfSet_5 rfl ?_
    refine go_mg (q := 9) dX0_worthOfSet_6 fl_X0_51 hk rfl rfl ?_
    refine go_icmp_geN (tgt := 35) (q := 12) dX0_worthOfSet_9 (by decide) rfl (by omega) (by omega) (fun h3 => ?_) (fun h3 => ?_)
    · skip
      refine go_iloadn2 (q := 36) dX0_worthOfSet_35 rfl ?_
      exact go_iretN dX0_worthOfSet_36 rfl (by rw [← ha, show c = S k 13 0 by omega]; rfl) hQ
    · skip
      refine go_iloadn1 (q := 13) dX0_worthOfSet_12 rfl ?_
      refine go_iloadn3 (q := 14) dX0_worthOfSet_13 rfl ?_
      refine go_ishr (q := 15) dX0_worthOfSet_14 rfl ?_
      refine go_iconstN (n := 1) (q := 16) dX0_worthOfSet_15 rfl ?_
      refine go_iand (q := 17) dX0_worthOfSet_16 rfl ?_
      refine go_st (st' := [.int (nI (bit t c))]) (by rw [m_bit ht (by omega)]) ?_
      refine go_iconstN (n := 1) (q := 18) dX0_worthOfSet_17 rfl ?_
      refine go_icmp_neN (tgt := 29) (q := 21) dX0_worthOfSet_18 (by decide) rfl (by omega) (by omega) (fun h4 => ?_) (fun h4 => ?_)
      · skip
        refine go_iincN3 (n := 1) (q := 32) dX0_worthOfSet_29 rfl (by decide) rfl ?_
        refine go_goto (tgt := 4) dX0_worthOfSet_32 (by decide) ?_
        exact ih (c + 1) a (by omega) (by omega) (by rw [sm_s, ha, if_neg h4]; rfl)
      · skip
        refine go_iloadn2 (q := 22) dX0_worthOfSet_21 rfl ?_
        refine go_aloadn0 (q := 23) dX0_worthOfSet_22 rfl ?_
        refine go_iloadn3 (q := 24) dX0_worthOfSet_23 rfl ?_
        refine go_im1 (q := 27) dX0_worthOfSet_24 lk_X0_94 (by decide) (by decide) (Nat.le_of_ble_eq_true rfl) hk rfl (c_worthOf hk hw (by omega) ?_)
        refine go_iaddN (q := 28) dX0_worthOfSet_27 rfl ?_
        refine go_istoren2 (q := 29) dX0_worthOfSet_28 rfl (by decide) rfl ?_
        refine go_iincN3 (n := 1) (q := 32) dX0_worthOfSet_29 rfl (by decide) rfl ?_
        refine go_goto (tgt := 4) dX0_worthOfSet_32 (by decide) ?_
        exact ih (c + 1) (a + wrt (S k) c) (by omega) (by omega) (by rw [sm_s, ha, if_pos h4])

set_option maxHeartbeats 4000000 in
set_option maxRecDepth 100000 in
theorem c_worthOfSet {S : St} {N : Nat → Nat → Int64} {X : St} {Y : Nat → Int64} {Q : Option Value → AH → Prop} {k t : Nat} (hk : k < 4) (hw : WF (S k)) (ht : t < 2 ^ 31) (hQ : Q (some (.int (nI (wset (S k) t)))) (hp S N X Y)) : Cn 3 yX0_worthOfSet cX0_worthOfSet 4 (some .int) [.ref (mo k), .int (nI t)] (hp S N X Y) Q := by
  refine cn_of (own := RX0) (lo := [some (.ref (mo k)), some (.int (nI t)), none, none]) 2 rfl (by decide +kernel) rfl (Nat.le_of_ble_eq_true rfl) ?_
  refine go_iconstN (n := 0) (q := 1) dX0_worthOfSet_0 rfl ?_
  refine go_istoren2 (q := 2) dX0_worthOfSet_1 rfl (by decide) rfl ?_
  refine go_iconstN (n := 0) (q := 3) dX0_worthOfSet_2 rfl ?_
  refine go_istoren3 (q := 4) dX0_worthOfSet_3 rfl (by decide) rfl ?_
  exact c_worthOfSet_4 hk hw ht hQ (S k 13 0 + 1) 0 0 (by omega) (by omega) rfl

theorem sets_lt {M : Mk} (h : WF M) (t : Nat) : sets M t < 4096 := Nat.lt_of_lt_of_le (setS_lt _ _) (Nat.pow_le_pow_right (by decide) h.co)

set_option maxHeartbeats 4000000 in
set_option maxRecDepth 100000 in
theorem c_purseOf {S : St} {N : Nat → Nat → Int64} {X : St} {Y : Nat → Int64} {Q : Option Value → AH → Prop} {k t : Nat} (hk : k < 4) (hw : WF (S k)) (ht : t < 2 ^ 31) (hQ : Q (some (.int (nI (purse (S k) t)))) (hp S N X Y)) : Cn 4 yX0_purseOf cX0_purseOf 2 (some .int) [.ref (mo k), .int (nI t)] (hp S N X Y) Q := by
  refine cn_of (own := RX0) (lo := [some (.ref (mo k)), some (.int (nI t))]) 0 rfl (by decide +kernel) rfl (Nat.le_of_ble_eq_true rfl) ?_
  refine go_aloadn0 (q := 1) dX0_purseOf_0 rfl ?_
  refine go_aloadn0 (q := 2) dX0_purseOf_1 rfl ?_
  refine go_iloadn1 (q := 3) dX0_purseOf_2 rfl ?_
  refine go_im1 (q := 6) dX0_purseOf_3 lk_X0_98 (by decide) (by decide) (Nat.le_of_ble_eq_true rfl) hk rfl (c_soundOf hk hw ht ?_)
  refine go_im1 (q := 9) dX0_purseOf_6 lk_X0_101 (by decide) (by decide) (Nat.le_of_ble_eq_true rfl) hk rfl (c_worthOfSet hk hw (by have := sets_lt hw t; omega) ?_)
  exact go_iretN dX0_purseOf_9 rfl (wset_purse _ _).symm hQ

set_option maxHeartbeats 4000000 in
set_option maxRecDepth 100000 in
theorem c_worthOfAll {S : St} {N : Nat → Nat → Int64} {X : St} {Y : Nat → Int64} {Q : Option Value → AH → Prop} {k : Nat} (hk : k < 4) (hw : WF (S k)) (hQ : Q (some (.int (nI (wset (S k) 4095)))) (hp S N X Y)) : Cn 4 yX0_worthOfAll cX0_worthOfAll 1 (some .int) [.ref (mo k)] (hp S N X Y) Q := by
  refine cn_of (own := RX0) (lo := [some (.ref (mo k))]) 0 rfl (by decide +kernel) rfl (Nat.le_of_ble_eq_true rfl) ?_
  refine go_aloadn0 (q := 1) dX0_worthOfAll_0 rfl ?_
  refine go_sipushN (v := 4095) (q := 4) dX0_worthOfAll_1 (by decide) rfl ?_
  refine go_im1 (q := 7) dX0_worthOfAll_4 lk_X0_101 (by decide) (by decide) (Nat.le_of_ble_eq_true rfl) hk rfl (c_worthOfSet hk hw (by decide) ?_)
  exact go_iret dX0_worthOfAll_7 rfl hQ
