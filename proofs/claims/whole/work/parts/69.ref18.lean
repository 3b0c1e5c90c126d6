theorem ad1 (j : Nat) : nI j + nI 1 = nI (j + 1) := by
  apply Int32.toBitVec_inj.mp
  simp [nI, BitVec.ofNat_add]
theorem st_cs {w : Int32} (h : rg w (-1) 6) : w = -1 ∨ ∃ j, j ≤ 6 ∧ w = nI j := by
  by_cases h0 : w.toInt = -1
  · left
    apply Int32.toInt_inj.mp
    rw [h0]
    decide
  · right
    obtain ⟨j, hj, e, -, -⟩ := rg_nat (n := 6) (x := w) (l := 0) (h := 6) ⟨by have := h.1; omega, h.2⟩ (by omega) (by omega)
    exact ⟨j, hj, e⟩

set_option maxHeartbeats 4000000 in
set_option maxRecDepth 100000 in
theorem r_status_14 {S : St} {N : Nat → Nat → Int64} {X : St} {Y : Nat → Int64} {Q : Option Value → AH → Prop} {w : Int32} {i : Nat} (hi : i < 8) (e : w + nI 1 = nI i) (hQ : Q (some (.int (nI (X 3 0 i)))) (hp S N X Y)) : Go 2 RX4 cX4_status 2 (some .int) 14 [some (.ref 69), some (.int w)] [] (hp S N X Y) Q := by
  refine go_aloadn0 (q := 15) dX4_status_14 rfl ?_
  refine go_xg (q := 18) dX4_status_15 fl_X4_19 rfl rfl ?_
  refine go_iloadn1 (q := 19) dX4_status_18 rfl ?_
  refine go_iconstN (n := 1) (q := 20) dX4_status_19 rfl ?_
  refine go_iadd (q := 21) dX4_status_20 rfl ?_
  refine go_st (st' := [.int (nI i), .ref 73]) (by rw [e]) ?_
  refine go_xfld (q := 22) dX4_status_21 hi rfl ?_
  refine go_goto (tgt := 31) dX4_status_22 (by decide) ?_
  exact go_iret dX4_status_31 rfl hQ

set_option maxHeartbeats 4000000 in
set_option maxRecDepth 100000 in
theorem r_image {S : St} {N : Nat → Nat → Int64} {X : St} {Y : Nat → Int64} {Q : Option Value → AH → Prop} (hO : Q (some (.int (nI 1))) (hp S N (u3 (uk X 1 (X 0)) 3 4 0 1) Y)) : Cn 2 yX4_image cX4_image 1 (some .int) [.ref 69] (hp S N X Y) Q := by
  refine cn_of (own := RX4) (lo := [some (.ref 69)]) 0 rfl (by decide +kernel) rfl (Nat.le_of_ble_eq_true rfl) ?_
  refine go_aloadn0 (q := 1) dX4_image_0 rfl ?_
  refine go_xg (q := 4) dX4_image_1 fl_X4_7 rfl rfl ?_
  refine go_aloadn0 (q := 5) dX4_image_4 rfl ?_
  refine go_xg (q := 8) dX4_image_5 fl_X4_13 rfl rfl ?_
  refine go_is2_ (q := 11) dX4_image_8 lk_X4_156 (by decide) (by decide) (Nat.le_of_ble_eq_true rfl) rfl (r_copyRow (a := 0) (b := 1) (by decide) (by decide) (by decide) ?_)
  refine go_aloadn0 (q := 12) dX4_image_11 rfl ?_
  refine go_iconstN (n := 1) (q := 13) dX4_image_12 rfl ?_
  refine go_xpk (q := 16) dX4_image_13 fp_X4_264 (by decide) rfl ?_
  refine go_iconstN (n := 1) (q := 17) dX4_image_16 rfl ?_
  exact go_iret dX4_image_17 rfl hO

set_option maxHeartbeats 4000000 in
set_option maxRecDepth 100000 in
theorem r_undo {S : St} {N : Nat → Nat → Int64} {X : St} {Y : Nat → Int64} {Q : Option Value → AH → Prop} (hk1 : X 3 4 0 ≤ 1) (hN : X 3 4 0 = 0 → ∀ X', Xf X X' 3 → Q (some (.int (-1000000004))) (hp S N X' Y)) (hO : X 3 4 0 = 1 → Q (some (.int (nI (X 1 13 0)))) (hp S N (uk X 0 (X 1)) Y)) : Cn 2 yX4_undo cX4_undo 1 (some .int) [.ref 69] (hp S N X Y) Q := by
  refine cn_of (own := RX4) (lo := [some (.ref 69)]) 0 rfl (by decide +kernel) rfl (Nat.le_of_ble_eq_true rfl) ?_
  refine go_aloadn0 (q := 1) dX4_undo_0 rfl ?_
  refine go_xg (q := 4) dX4_undo_1 fl_X4_264 rfl rfl ?_
  refine go_if_neN (tgt := 14) (q := 7) dX4_undo_4 (by decide) rfl (by omega) (fun h1 => ?_) (fun h1 => ?_)
  · skip
    refine go_aloadn0 (q := 15) dX4_undo_14 rfl ?_
    refine go_xg (q := 18) dX4_undo_15 fl_X4_13 rfl rfl ?_
    refine go_aloadn0 (q := 19) dX4_undo_18 rfl ?_
    refine go_xg (q := 22) dX4_undo_19 fl_X4_7 rfl rfl ?_
    refine go_is2_ (q := 25) dX4_undo_22 lk_X4_156 (by decide) (by decide) (Nat.le_of_ble_eq_true rfl) rfl (r_copyRow (a := 1) (b := 0) (by decide) (by decide) (by decide) ?_)
    refine go_aloadn0 (q := 26) dX4_undo_25 rfl ?_
    refine go_xg (q := 29) dX4_undo_26 fl_X4_7 rfl rfl ?_
    refine go_iconstN (n := 0) (q := 30) dX4_undo_29 rfl ?_
    refine go_rld (q := 31) dX4_undo_30 (rr_13 (f := 0) (by decide)) rfl ?_
    exact go_iret dX4_undo_31 rfl (hO (by omega))
  · skip
    refine go_aloadn0 (q := 8) dX4_undo_7 rfl ?_
    refine go_ldc (q := 10) dX4_undo_8 ko_X4_166 rfl ?_
    refine go_ix1 (q := 13) dX4_undo_10 lk_X4_57 (by decide) (by decide) (Nat.le_of_ble_eq_true rfl) rfl (r_finds (p := 3) (by decide) (by decide) ?_)
    exact go_iret dX4_undo_13 rfl (hN h1 _ (Xf.rf 3))

set_option maxHeartbeats 4000000 in
set_option maxRecDepth 100000 in
theorem r_tear {S : St} {N : Nat → Nat → Int64} {X : St} {Y : Nat → Int64} {Q : Option Value → AH → Prop} (hk1 : X 3 4 0 ≤ 1) (hO : Q (some (.int (nI (X 3 4 0)))) (hp S N (u3 X 3 4 0 0) Y)) : Cn 2 yX4_tear cX4_tear 2 (some .int) [.ref 69] (hp S N X Y) Q := by
  refine cn_of (own := RX4) (lo := [some (.ref 69), none]) 1 rfl (by decide +kernel) rfl (Nat.le_of_ble_eq_true rfl) ?_
  refine go_aloadn0 (q := 1) dX4_tear_0 rfl ?_
  refine go_xg (q := 4) dX4_tear_1 fl_X4_264 rfl rfl ?_
  refine go_istoren1 (q := 5) dX4_tear_4 rfl (by decide) rfl ?_
  refine go_aloadn0 (q := 6) dX4_tear_5 rfl ?_
  refine go_iconstN (n := 0) (q := 7) dX4_tear_6 rfl ?_
  refine go_xpk (q := 10) dX4_tear_7 fp_X4_264 (by decide) rfl ?_
  refine go_iloadn1 (q := 11) dX4_tear_10 rfl ?_
  refine go_if_eqN (tgt := 18) (q := 14) dX4_tear_11 (by decide) rfl (by omega) (fun h1 => ?_) (fun h1 => ?_)
  · skip
    refine go_iconstN (n := 0) (q := 19) dX4_tear_18 rfl ?_
    exact go_iretN dX4_tear_19 rfl (by omega) hO
  · skip
    refine go_iconstN (n := 1) (q := 15) dX4_tear_14 rfl ?_
    refine go_goto (tgt := 19) dX4_tear_15 (by decide) ?_
    exact go_iretN dX4_tear_19 rfl (by omega) hO

set_option maxHeartbeats 4000000 in
set_option maxRecDepth 100000 in
theorem r_wipe {S : St} {N : Nat → Nat → Int64} {X : St} {Y : Nat → Int64} {Q : Option Value → AH → Prop} (hO : Q (some (.int (nI (X 3 4 1)))) (hp S N (u3 X 3 4 1 0) Y)) : Cn 2 yX4_wipe cX4_wipe 2 (some .int) [.ref 69] (hp S N X Y) Q := by
  refine cn_of (own := RX4) (lo := [some (.ref 69), none]) 1 rfl (by decide +kernel) rfl (Nat.le_of_ble_eq_true rfl) ?_
  refine go_aloadn0 (q := 1) dX4_wipe_0 rfl ?_
  refine go_xg (q := 4) dX4_wipe_1 fl_X4_190 rfl rfl ?_
  refine go_istoren1 (q := 5) dX4_wipe_4 rfl (by decide) rfl ?_
  refine go_aloadn0 (q := 6) dX4_wipe_5 rfl ?_
  refine go_iconstN (n := 0) (q := 7) dX4_wipe_6 rfl ?_
  refine go_xpf (f := 1) (q := 10) dX4_wipe_7 fp_X4_190 (by omega) rfl ?_
  refine go_iloadn1 (q := 11) dX4_wipe_10 rfl ?_
  exact go_iret dX4_wipe_11 rfl hO

set_option maxHeartbeats 4000000 in
set_option maxRecDepth 100000 in
theorem r_status {S : St} {N : Nat → Nat → Int64} {X : St} {Y : Nat → Int64} {Q : Option Value → AH → Prop} {w : Int32} (hB : ¬ rg w (-1) 6 → ∀ X', Xf X X' 0 → Q (some (.int (-1000000001))) (hp S N X' Y)) (hA : w = -1 → Q (some (.int (nI (X 3 0 0)))) (hp S N X Y)) (hO : ∀ j, j ≤ 6 → w = nI j → Q (some (.int (nI (X 3 0 (j + 1))))) (hp S N X Y)) : Cn 2 yX4_status cX4_status 2 (some .int) [.ref 69, .int w] (hp S N X Y) Q := by
  refine cn_of (own := RX4) (lo := [some (.ref 69), some (.int w)]) 0 rfl (by decide +kernel) rfl (Nat.le_of_ble_eq_true rfl) ?_
  refine go_iloadn1 (q := 1) dX4_status_0 rfl ?_
  refine go_i2l (q := 2) dX4_status_1 rfl ?_
  refine go_ldc2 (q := 5) dX4_status_2 ko_X4_268 rfl ?_
  refine go_ldc2 (q := 8) dX4_status_5 ko_X4_270 rfl ?_
  refine go_is3_ (q := 11) dX4_status_8 lk_X4_49 (by decide) (by decide) (Nat.le_of_ble_eq_true rfl) rfl (r_isIn (l := -1) (m := 6) (by decide) (by decide) ?_)
  refine go_ifeqB (tgt := 25) (q := 14) dX4_status_11 (by decide) rfl (fun h1 => ?_) (fun h1 => ?_)
  · skip
    refine go_aloadn0 (q := 26) dX4_status_25 rfl ?_
    refine go_ldc (q := 28) dX4_status_26 ko_X4_42 rfl ?_
    refine go_ix1 (q := 31) dX4_status_28 lk_X4_57 (by decide) (by decide) (Nat.le_of_ble_eq_true rfl) rfl (r_finds (p := 0) (by decide) (by decide) ?_)
    exact go_iret dX4_status_31 rfl (hB h1 _ (Xf.rf 0))
  · skip
    rcases st_cs h1 with rfl | ⟨j, hj, rfl⟩
    · exact r_status_14 (i := 0) (by decide) rfl (hA rfl)
    · exact r_status_14 (i := j + 1) (by omega) (ad1 j) (hO j hj rfl)

set_option maxHeartbeats 4000000 in
set_option maxRecDepth 100000 in
theorem r_count_52 {S : St} {N : Nat → Nat → Int64} {X : St} {Y : Nat → Int64} {Q : Option Value → AH → Prop} (hw : WF (X 0)) {x : Int32} (hQ : Q (some (.int (nI (sm (fun i => 1 - X 0 10 i) (X 0 13 1))))) (hp S N X Y)) : ∀ (fu : Nat) (c a : Nat), X 0 13 1 - c < fu → (c ≤ X 0 13 1) → (sm (fun i => 1 - X 0 10 i) c = a) → Go 2 RX4 cX4_count 4 (some .int) 52 [some (.ref 69), some (.int x), some (.int (nI a)), some (.int (nI c))] [] (hp S N X Y) Q := by
  intro fu
  induction fu with
  | zero => intro c a hfu; exact absurd hfu (Nat.not_lt_zero _)
  | succ fu ih =>
    intro c a hfu hc ha
    have hlo := hw.lo
    have hpd := (hw.ln c).2.2.2.2
    refine go_iloadn3 (q := 53) dX4_count_52 rfl ?_
    refine go_aloadn0 (q := 54) dX4_count_53 rfl ?_
    refine go_xg (q := 57) dX4_count_54 fl_X4_7 rfl rfl ?_
    refine go_iconstN (n := 1) (q := 58) dX4_count_57 rfl ?_
    refine go_rld (q := 59) dX4_count_58 (rr_13 (f := 1) (by decide)) rfl ?_
    refine go_icmp_geN (tgt := 86) (q := 62) dX4_count_59 (by decide) rfl (by omega) (by omega) (fun h1 => ?_) (fun h1 => ?_)
    · skip
      refine go_iloadn2 (q := 87) dX4_count_86 rfl ?_
      exact go_iretN dX4_count_87 rfl (by rw [← ha, show c = X 0 13 1 by omega]) hQ
    · skip
      refine go_iloadn2 (q := 63) dX4_count_62 rfl ?_
      refine go_iconstN (n := 1) (q := 64) dX4_count_63 rfl ?_
      refine go_aloadn0 (q := 65) dX4_count_64 rfl ?_
      refine go_xg (q := 68) dX4_count_65 fl_X4_7 rfl rfl ?_
      refine go_bipushN (v := 68) (q := 70) dX4_count_68 (by decide) rfl ?_
      refine go_iconstN (n := 5) (q := 71) dX4_count_70 rfl ?_
      refine go_iloadn3 (q := 72) dX4_count_71 rfl ?_
      refine go_imulN (q := 73) dX4_count_72 rfl ?_
      refine go_iaddN (q := 74) dX4_count_73 rfl ?_
      refine go_iconstN (n := 4) (q := 75) dX4_count_74 rfl ?_
      refine go_iaddN (q := 76) dX4_count_75 rfl ?_
      refine go_rld (q := 77) dX4_count_76 (rr_loan (w := 4) (show c < 8 by omega) (by decide)) rfl ?_
      refine go_st (st' := [.int (nI (X 0 10 c)), .int (nI 1), .int (nI a)]) rfl ?_
      refine go_isubN (q := 78) dX4_count_77 hpd rfl ?_
      refine go_iaddN (q := 79) dX4_count_78 rfl ?_
      refine go_istoren2 (q := 80) dX4_count_79 rfl (by decide) rfl ?_
      refine go_iincN3 (n := 1) (q := 83) dX4_count_80 rfl (by decide) rfl ?_
      refine go_goto (tgt := 52) dX4_count_83 (by decide) ?_
      exact ih (c + 1) (a + (1 - X 0 10 c)) (by omega) (by omega) (by rw [sm_s, ha])

set_option maxHeartbeats 4000000 in
set_option maxRecDepth 100000 in
theorem r_count_95 {S : St} {N : Nat → Nat → Int64} {X : St} {Y : Nat → Int64} {Q : Option Value → AH → Prop} (hw : WF (X 0)) {x : Int32} (hQ : Q (some (.int (nI (sizes (X 0))))) (hp S N X Y)) : ∀ (fu : Nat) (c a : Nat), X 0 13 0 - c < fu → (c ≤ X 0 13 0) → (sm (fun i => X 0 2 i) c = a) → Go 2 RX4 cX4_count 4 (some .int) 95 [some (.ref 69), some (.int x), some (.int (nI a)), some (.int (nI c))] [] (hp S N X Y) Q := by
  intro fu
  induction fu with
  | zero => intro c a hfu; exact absurd hfu (Nat.not_lt_zero _)
  | succ fu ih =>
    intro c a hfu hc ha
    have hco := hw.co
    refine go_iloadn3 (q := 96) dX4_count_95 rfl ?_
    refine go_aloadn0 (q := 97) dX4_count_96 rfl ?_
    refine go_xg (q := 100) dX4_count_97 fl_X4_7 rfl rfl ?_
    refine go_iconstN (n := 0) (q := 101) dX4_count_100 rfl ?_
    refine go_rld (q := 102) dX4_count_101 (rr_13 (f := 0) (by decide)) rfl ?_
    refine go_icmp_geN (tgt := 120) (q := 105) dX4_count_102 (by decide) rfl (by omega) (by omega) (fun h1 => ?_) (fun h1 => ?_)
    · skip
      refine go_iloadn2 (q := 121) dX4_count_120 rfl ?_
      exact go_iretN dX4_count_121 rfl (by unfold sizes; rw [← ha, show c = X 0 13 0 by omega]) hQ
    · skip
      refine go_iloadn2 (q := 106) dX4_count_105 rfl ?_
      refine go_aloadn0 (q := 107) dX4_count_106 rfl ?_
      refine go_iloadn3 (q := 108) dX4_count_107 rfl ?_
      refine go_iconstN (n := 2) (q := 109) dX4_count_108 rfl ?_
      refine go_ix2 (q := 112) dX4_count_109 lk_X4_84 (by decide) (by decide) (Nat.le_of_ble_eq_true rfl) rfl (r_is (by omega) (by decide) ?_)
      refine go_iaddN (q := 113) dX4_count_112 rfl ?_
      refine go_istoren2 (q := 114) dX4_count_113 rfl (by decide) rfl ?_
      refine go_iincN3 (n := 1) (q := 117) dX4_count_114 rfl (by decide) rfl ?_
      refine go_goto (tgt := 95) dX4_count_117 (by decide) ?_
      exact ih (c + 1) (a + X 0 2 c) (by omega) (by omega) (by rw [sm_s, ha])

set_option maxHeartbeats 4000000 in
set_option maxRecDepth 100000 in
theorem r_count {S : St} {N : Nat → Nat → Int64} {X : St} {Y : Nat → Int64} {Q : Option Value → AH → Prop} {w : Int32} (hw : WF (X 0)) (hB : ¬ rg w 0 4 → ∀ X', Xf X X' 0 → Q (some (.int (-1000000001))) (hp S N X' Y)) (hO : ∀ j, j ≤ 4 → w = nI j → Q (some (.int (nI (cntV (X 0) (X 3 4 1) j)))) (hp S N X Y)) : Cn 2 yX4_count cX4_count 4 (some .int) [.ref 69, .int w] (hp S N X Y) Q := by
  refine cn_of (own := RX4) (lo := [some (.ref 69), some (.int w), none, none]) 2 rfl (by decide +kernel) rfl (Nat.le_of_ble_eq_true rfl) ?_
  refine go_iconstN (n := 0) (q := 1) dX4_count_0 rfl ?_
  refine go_istoren2 (q := 2) dX4_count_1 rfl (by decide) rfl ?_
  refine go_iloadn1 (q := 3) dX4_count_2 rfl ?_
  rcases sw_4 w with z | rfl | rfl | rfl | rfl | rfl
  · skip
    refine go_tableOut (tgt := 122) dX4_count_3 (by unfold rg at z; omega) (by decide) ?_
    refine go_aloadn0 (q := 123) dX4_count_122 rfl ?_
    refine go_ldc (q := 125) dX4_count_123 ko_X4_42 rfl ?_
    refine go_ix1 (q := 128) dX4_count_125 lk_X4_57 (by decide) (by decide) (Nat.le_of_ble_eq_true rfl) rfl (r_finds (p := 0) (by decide) (by decide) ?_)
    exact go_iret dX4_count_128 rfl (hB z _ (Xf.rf 0))
  · skip
    refine go_tableIn (off := 33) (tgt := 36) dX4_count_3 (by decide) (by decide) (by decide) (by decide) ?_
    refine go_aloadn0 (q := 37) dX4_count_36 rfl ?_
    refine go_xg (q := 40) dX4_count_37 fl_X4_7 rfl rfl ?_
    refine go_iconstN (n := 0) (q := 41) dX4_count_40 rfl ?_
    refine go_rld (q := 42) dX4_count_41 (rr_13 (f := 0) (by decide)) rfl ?_
    exact go_iretN dX4_count_42 rfl (by rfl) (hO 0 (by decide) rfl)
  · skip
    refine go_tableIn (off := 40) (tgt := 43) dX4_count_3 (by decide) (by decide) (by decide) (by decide) ?_
    refine go_aloadn0 (q := 44) dX4_count_43 rfl ?_
    refine go_xg (q := 47) dX4_count_44 fl_X4_7 rfl rfl ?_
    refine go_iconstN (n := 1) (q := 48) dX4_count_47 rfl ?_
    refine go_rld (q := 49) dX4_count_48 (rr_13 (f := 1) (by decide)) rfl ?_
    exact go_iretN dX4_count_49 rfl (by rfl) (hO 1 (by decide) rfl)
  · skip
    refine go_tableIn (off := 47) (tgt := 50) dX4_count_3 (by decide) (by decide) (by decide) (by decide) ?_
    refine go_iconstN (n := 0) (q := 51) dX4_count_50 rfl ?_
    refine go_istoren3 (q := 52) dX4_count_51 rfl (by decide) rfl ?_
    exact r_count_52 hw (hO 2 (by decide) rfl) (X 0 13 1 + 1) 0 0 (by omega) (by omega) rfl
  · skip
    refine go_tableIn (off := 85) (tgt := 88) dX4_count_3 (by decide) (by decide) (by decide) (by decide) ?_
    refine go_aloadn0 (q := 89) dX4_count_88 rfl ?_
    refine go_xg (q := 92) dX4_count_89 fl_X4_190 rfl rfl ?_
    exact go_iretN dX4_count_92 rfl (by rfl) (hO 3 (by decide) rfl)
  · skip
    refine go_tableIn (off := 90) (tgt := 93) dX4_count_3 (by decide) (by decide) (by decide) (by decide) ?_
    refine go_iconstN (n := 0) (q := 94) dX4_count_93 rfl ?_
    refine go_istoren3 (q := 95) dX4_count_94 rfl (by decide) rfl ?_
    exact r_count_95 hw (hO 4 (by decide) rfl) (X 0 13 0 + 1) 0 0 (by omega) (by omega) rfl
