set_option maxHeartbeats 4000000 in
set_option maxRecDepth 100000 in
theorem c_image {S : St} {N : Nat → Nat → Int64} {X : St} {Y : Nat → Int64} {Q : Option Value → AH → Prop} (hO : ∀ S', S' 0 = S 0 → S' 1 = S 0 → S' 4 = S 4 → S' 5 = u2 (S 5) 1 0 1 → S' 6 = S 6 → Q (some (.int (nI 1))) (hp S' N X Y)) : Cn 3 yX3_image cX3_image 1 (some .int) [.ref 0] (hp S N X Y) Q := by
  refine cn_of (own := RX3) (lo := [some (.ref 0)]) 0 rfl (by decide +kernel) rfl (Nat.le_of_ble_eq_true rfl) ?_
  refine go_aloadn0 (q := 1) dX3_image_0 rfl ?_
  refine go_cg (q := 4) dX3_image_1 fl_X3_16 rfl rfl ?_
  refine go_aloadn0 (q := 5) dX3_image_4 rfl ?_
  refine go_cg (q := 8) dX3_image_5 fl_X3_10 rfl rfl ?_
  refine go_im1 (q := 11) dX3_image_8 lk_X3_183 (by decide) (by decide) (Nat.le_of_ble_eq_true rfl) (by decide) rfl (c_become (a := 0) (b := 1) (by decide) (by decide) (by decide) (fun S1 g1 => ?_))
  refine go_aloadn0 (q := 12) dX3_image_11 rfl ?_
  refine go_iconstN (n := 1) (q := 13) dX3_image_12 rfl ?_
  refine go_cpf (q := 16) dX3_image_13 fp_X3_43 (by decide) rfl ?_
  refine go_iconstN (n := 1) (q := 17) dX3_image_16 rfl ?_
  exact go_iret dX3_image_17 rfl (hO _ (by rw [u3_oth _ (by decide)]; exact g1.2 0 (by decide) (by decide)) (by rw [u3_oth _ (by decide)]; exact g1.1) (by rw [u3_oth _ (by decide)]; exact g1.2 4 (by decide) (by decide)) (by rw [u3_k, g1.2 5 (by decide) (by decide)]) (by rw [u3_oth _ (by decide)]; exact g1.2 6 (by decide) (by decide)))

set_option maxHeartbeats 4000000 in
set_option maxRecDepth 100000 in
theorem c_undo {S : St} {N : Nat → Nat → Int64} {X : St} {Y : Nat → Int64} {Q : Option Value → AH → Prop} (hk1 : S 5 1 0 ≤ 1) (hN : S 5 1 0 = 0 → ∀ S', Cf S S' 3 → Q (some (.int (-1000000004))) (hp S' N X Y)) (hO : S 5 1 0 = 1 → ∀ S', Cc S S' (S 1) → Q (some (.int (nI (S 1 13 0)))) (hp S' N X Y)) : Cn 3 yX3_undo cX3_undo 1 (some .int) [.ref 0] (hp S N X Y) Q := by
  refine cn_of (own := RX3) (lo := [some (.ref 0)]) 0 rfl (by decide +kernel) rfl (Nat.le_of_ble_eq_true rfl) ?_
  refine go_aloadn0 (q := 1) dX3_undo_0 rfl ?_
  refine go_cg (q := 4) dX3_undo_1 fl_X3_43 rfl rfl ?_
  refine go_if_neN (tgt := 14) (q := 7) dX3_undo_4 (by decide) rfl (by omega) (fun h1 => ?_) (fun h1 => ?_)
  · skip
    refine go_aloadn0 (q := 15) dX3_undo_14 rfl ?_
    refine go_cg (q := 18) dX3_undo_15 fl_X3_10 rfl rfl ?_
    refine go_aloadn0 (q := 19) dX3_undo_18 rfl ?_
    refine go_cg (q := 22) dX3_undo_19 fl_X3_16 rfl rfl ?_
    refine go_im1 (q := 25) dX3_undo_22 lk_X3_183 (by decide) (by decide) (Nat.le_of_ble_eq_true rfl) (by decide) rfl (c_become (a := 1) (b := 0) (by decide) (by decide) (by decide) (fun S1 g1 => ?_))
    refine go_aloadn0 (q := 26) dX3_undo_25 rfl ?_
    refine go_cg (q := 29) dX3_undo_26 fl_X3_10 rfl rfl ?_
    refine go_mg (q := 32) dX3_undo_29 fl_X3_69 (by decide) rfl rfl ?_
    rw [g1.1]
    exact go_iret dX3_undo_32 rfl (hO (by omega) _ g1.here)
  · skip
    refine go_aloadn0 (q := 8) dX3_undo_7 rfl ?_
    refine go_ldc (q := 10) dX3_undo_8 ko_X3_193 rfl ?_
    refine go_ic1 (q := 13) dX3_undo_10 lk_X3_56 (by decide) (by decide) (Nat.le_of_ble_eq_true rfl) rfl (c_finding (p := 3) (by decide) (by decide) ?_)
    exact go_iret dX3_undo_13 rfl (hN h1 _ (Cf.rf 3))

set_option maxHeartbeats 4000000 in
set_option maxRecDepth 100000 in
theorem c_tear {S : St} {N : Nat → Nat → Int64} {X : St} {Y : Nat → Int64} {Q : Option Value → AH → Prop} (hk1 : S 5 1 0 ≤ 1) (hO : ∀ S', S' 0 = S 0 → S' 1 = S 1 → S' 4 = S 4 → S' 5 = u2 (S 5) 1 0 0 → S' 6 = S 6 → Q (some (.int (nI (S 5 1 0)))) (hp S' N X Y)) : Cn 3 yX3_tear cX3_tear 2 (some .int) [.ref 0] (hp S N X Y) Q := by
  refine cn_of (own := RX3) (lo := [some (.ref 0), none]) 1 rfl (by decide +kernel) rfl (Nat.le_of_ble_eq_true rfl) ?_
  refine go_aloadn0 (q := 1) dX3_tear_0 rfl ?_
  refine go_cg (q := 4) dX3_tear_1 fl_X3_43 rfl rfl ?_
  refine go_if_eqN (tgt := 11) (q := 7) dX3_tear_4 (by decide) rfl (by omega) (fun h1 => ?_) (fun h1 => ?_)
  · skip
    refine go_iconstN (n := 0) (q := 12) dX3_tear_11 rfl ?_
    refine go_istoren1 (q := 13) dX3_tear_12 rfl (by decide) rfl ?_
    refine go_aloadn0 (q := 14) dX3_tear_13 rfl ?_
    refine go_iconstN (n := 0) (q := 15) dX3_tear_14 rfl ?_
    refine go_cpf (q := 18) dX3_tear_15 fp_X3_43 (by decide) rfl ?_
    refine go_iloadn1 (q := 19) dX3_tear_18 rfl ?_
    exact go_iretN dX3_tear_19 rfl h1 (hO _ (u3_oth _ (by decide)) (u3_oth _ (by decide)) (u3_oth _ (by decide)) (u3_k _ _ _ _ _) (u3_oth _ (by decide)))
  · skip
    refine go_iconstN (n := 1) (q := 8) dX3_tear_7 rfl ?_
    refine go_goto (tgt := 12) dX3_tear_8 (by decide) ?_
    refine go_istoren1 (q := 13) dX3_tear_12 rfl (by decide) rfl ?_
    refine go_aloadn0 (q := 14) dX3_tear_13 rfl ?_
    refine go_iconstN (n := 0) (q := 15) dX3_tear_14 rfl ?_
    refine go_cpf (q := 18) dX3_tear_15 fp_X3_43 (by decide) rfl ?_
    refine go_iloadn1 (q := 19) dX3_tear_18 rfl ?_
    exact go_iretN dX3_tear_19 rfl (by omega) (hO _ (u3_oth _ (by decide)) (u3_oth _ (by decide)) (u3_oth _ (by decide)) (u3_k _ _ _ _ _) (u3_oth _ (by decide)))

def cntV (M : Mk) (L j : Nat) : Nat := if j = 0 then M 13 0 else if j = 1 then M 13 1 else if j = 2 then sm (fun i => 1 - M 10 i) (M 13 1) else if j = 3 then L else sizes M

set_option maxHeartbeats 4000000 in
set_option maxRecDepth 100000 in
theorem c_count {S : St} {N : Nat → Nat → Int64} {X : St} {Y : Nat → Int64} {Q : Option Value → AH → Prop} {w : Int32} (hw : WF (S 0)) (hB : ¬ rg w 0 4 → ∀ S', Cf S S' 0 → Q (some (.int (-1000000001))) (hp S' N X Y)) (hO : ∀ j, j ≤ 4 → w = nI j → Q (some (.int (nI (cntV (S 0) (S 4 1 0) j)))) (hp S N X Y)) : Cn 2 yX3_count cX3_count 2 (some .int) [.ref 0, .int w] (hp S N X Y) Q := by
  refine cn_of (own := RX3) (lo := [some (.ref 0), some (.int w)]) 0 rfl (by decide +kernel) rfl (Nat.le_of_ble_eq_true rfl) ?_
  refine go_iloadn1 (q := 1) dX3_count_0 rfl ?_
  rcases sw_4 w with hwr | rfl | rfl | rfl | rfl | rfl
  · skip
    refine go_tableOut (tgt := 76) dX3_count_1 (by omega) (by decide) ?_
    refine go_aloadn0 (q := 77) dX3_count_76 rfl ?_
    refine go_ldc (q := 79) dX3_count_77 ko_X3_55 rfl ?_
    refine go_ic1 (q := 82) dX3_count_79 lk_X3_56 (by decide) (by decide) (Nat.le_of_ble_eq_true rfl) rfl (c_finding (p := 0) (by decide) (by decide) ?_)
    exact go_iret dX3_count_82 rfl (hB hwr _ (Cf.rf 0))
  · skip
    refine go_tableIn (off := 35) (tgt := 36) dX3_count_1 (by decide) (by decide) (by decide) (by decide) ?_
    refine go_aloadn0 (q := 37) dX3_count_36 rfl ?_
    refine go_cg (q := 40) dX3_count_37 fl_X3_10 rfl rfl ?_
    refine go_mg (q := 43) dX3_count_40 fl_X3_69 (by decide) rfl rfl ?_
    exact go_iret dX3_count_43 rfl (hO 0 (by decide) rfl)
  · skip
    refine go_tableIn (off := 43) (tgt := 44) dX3_count_1 (by decide) (by decide) (by decide) (by decide) ?_
    refine go_aloadn0 (q := 45) dX3_count_44 rfl ?_
    refine go_cg (q := 48) dX3_count_45 fl_X3_10 rfl rfl ?_
    refine go_mg (q := 51) dX3_count_48 fl_X3_146 (by decide) rfl rfl ?_
    exact go_iret dX3_count_51 rfl (hO 1 (by decide) rfl)
  · skip
    refine go_tableIn (off := 51) (tgt := 52) dX3_count_1 (by decide) (by decide) (by decide) (by decide) ?_
    refine go_aloadn0 (q := 53) dX3_count_52 rfl ?_
    refine go_cg (q := 56) dX3_count_53 fl_X3_10 rfl rfl ?_
    refine go_im0 (q := 59) dX3_count_56 lk_X3_266 (by decide) (by decide) (Nat.le_of_ble_eq_true rfl) (by decide) rfl (c_unpaid (by decide) hw ?_)
    exact go_iret dX3_count_59 rfl (hO 2 (by decide) rfl)
  · skip
    refine go_tableIn (off := 59) (tgt := 60) dX3_count_1 (by decide) (by decide) (by decide) (by decide) ?_
    refine go_aloadn0 (q := 61) dX3_count_60 rfl ?_
    refine go_cg (q := 64) dX3_count_61 fl_X3_28 rfl rfl ?_
    refine go_tg (q := 67) dX3_count_64 fl_X3_218 rfl rfl ?_
    exact go_iret dX3_count_67 rfl (hO 3 (by decide) rfl)
  · skip
    refine go_tableIn (off := 67) (tgt := 68) dX3_count_1 (by decide) (by decide) (by decide) (by decide) ?_
    refine go_aloadn0 (q := 69) dX3_count_68 rfl ?_
    refine go_cg (q := 72) dX3_count_69 fl_X3_10 rfl rfl ?_
    refine go_im0 (q := 75) dX3_count_72 lk_X3_269 (by decide) (by decide) (Nat.le_of_ble_eq_true rfl) (by decide) rfl (c_sizeOfAll (by decide) hw ?_)
    exact go_iret dX3_count_75 rfl (hO 4 (by decide) rfl)

set_option maxHeartbeats 4000000 in
set_option maxRecDepth 100000 in
theorem c_status_32 {S : St} {N : Nat → Nat → Int64} {X : St} {Y : Nat → Int64} {Q : Option Value → AH → Prop} {w : Int32} (hO : Q (some (.int (nI (sm (fun f => S 5 0 f) 7)))) (hp S N X Y)) : ∀ (fu : Nat) (t a : Nat), 7 - t < fu → (t ≤ 7) → (sm (fun f => S 5 0 f) t = a) → Go 3 RX3 cX3_status 4 (some .int) 32 [some (.ref 0), some (.int w), some (.int (nI a)), some (.int (nI t))] [] (hp S N X Y) Q := by
  intro fu
  induction fu with
  | zero => intro t a hfu; exact absurd hfu (Nat.not_lt_zero _)
  | succ fu ih =>
    intro t a hfu ht ha
    refine go_iloadn3 (q := 33) dX3_status_32 rfl ?_
    refine go_bipushN (v := 7) (q := 35) dX3_status_33 (by decide) rfl ?_
    refine go_icmp_geN (tgt := 53) (q := 38) dX3_status_35 (by decide) rfl (by omega) (by omega) (fun h1 => ?_) (fun h1 => ?_)
    · skip
      refine go_iloadn2 (q := 54) dX3_status_53 rfl ?_
      exact go_iretN dX3_status_54 rfl (by rw [← ha, show t = 7 by omega]) hO
    · skip
      refine go_iloadn2 (q := 39) dX3_status_38 rfl ?_
      refine go_aloadn0 (q := 40) dX3_status_39 rfl ?_
      refine go_cg (q := 43) dX3_status_40 fl_X3_39 rfl rfl ?_
      refine go_iloadn3 (q := 44) dX3_status_43 rfl ?_
      refine go_dld (q := 45) dX3_status_44 (by omega) rfl ?_
      refine go_iaddN (q := 46) dX3_status_45 rfl ?_
      refine go_istoren2 (q := 47) dX3_status_46 rfl (by decide) rfl ?_
      refine go_iincN3 (n := 1) (q := 50) dX3_status_47 rfl (by decide) rfl ?_
      refine go_goto (tgt := 32) dX3_status_50 (by decide) ?_
      exact ih (t + 1) (a + S 5 0 t) (by omega) (by omega) (by rw [sm_s, ha])

set_option maxHeartbeats 4000000 in
set_option maxRecDepth 100000 in
theorem c_status {S : St} {N : Nat → Nat → Int64} {X : St} {Y : Nat → Int64} {Q : Option Value → AH → Prop} {w : Int32} (hB : ¬ rg w (-1) 6 → ∀ S', Cf S S' 0 → Q (some (.int (-1000000001))) (hp S' N X Y)) (hA : w = -1 → Q (some (.int (nI (sm (fun f => S 5 0 f) 7)))) (hp S N X Y)) (hO : ∀ j, j ≤ 6 → w = nI j → Q (some (.int (nI (S 5 0 j)))) (hp S N X Y)) : Cn 3 yX3_status cX3_status 4 (some .int) [.ref 0, .int w] (hp S N X Y) Q := by
  refine cn_of (own := RX3) (lo := [some (.ref 0), some (.int w), none, none]) 2 rfl (by decide +kernel) rfl (Nat.le_of_ble_eq_true rfl) ?_
  refine go_iloadn1 (q := 1) dX3_status_0 rfl ?_
  refine go_iconstV (v := -1) (q := 2) dX3_status_1 (by decide) rfl ?_
  refine go_bipushN (v := 6) (q := 4) dX3_status_2 (by decide) rfl ?_
  refine go_is3_ (q := 7) dX3_status_4 lk_X3_51 (by decide) (by decide) (Nat.le_of_ble_eq_true rfl) rfl (c_isWithin (l := -1) (m := 6) (by decide) (by decide) ?_)
  refine go_ifneB (tgt := 17) (q := 10) dX3_status_7 (by decide) rfl (fun h1 => ?_) (fun h1 => ?_)
  · skip
    refine go_iloadn1 (q := 18) dX3_status_17 rfl ?_
    refine go_if_lt (tgt := 28) (q := 21) dX3_status_18 (by decide) rfl (fun h2 => ?_) (fun h2 => ?_)
    · skip
      refine go_iconstN (n := 0) (q := 29) dX3_status_28 rfl ?_
      refine go_istoren2 (q := 30) dX3_status_29 rfl (by decide) rfl ?_
      refine go_iconstN (n := 0) (q := 31) dX3_status_30 rfl ?_
      refine go_istoren3 (q := 32) dX3_status_31 rfl (by decide) rfl ?_
      have hm1 : w = -1 := by
        rw [Int32.lt_iff_toInt_lt] at h2
        have h0 : (0 : Int32).toInt = 0 := by decide
        have h9 : (-1 : Int32).toInt = -1 := by decide
        apply Int32.toInt_inj.mp
        omega
      exact c_status_32 (hA hm1) 8 0 0 (by omega) (by omega) rfl
    · skip
      have h3 : rg w 0 6 := by
        rw [Int32.lt_iff_toInt_lt] at h2
        have h0 : (0 : Int32).toInt = 0 := by decide
        omega
      obtain ⟨j, hj, rfl, -, -⟩ := rg_nat (n := 6) h3 (by omega) (by omega)
      refine go_aloadn0 (q := 22) dX3_status_21 rfl ?_
      refine go_cg (q := 25) dX3_status_22 fl_X3_39 rfl rfl ?_
      refine go_iloadn1 (q := 26) dX3_status_25 rfl ?_
      refine go_dld (q := 27) dX3_status_26 (by omega) rfl ?_
      exact go_iret dX3_status_27 rfl (hO j hj rfl)
  · skip
    refine go_aloadn0 (q := 11) dX3_status_10 rfl ?_
    refine go_ldc (q := 13) dX3_status_11 ko_X3_55 rfl ?_
    refine go_ic1 (q := 16) dX3_status_13 lk_X3_56 (by decide) (by decide) (Nat.le_of_ble_eq_true rfl) rfl (c_finding (p := 0) (by decide) (by decide) ?_)
    exact go_iret dX3_status_16 rfl (hB h1 _ (Cf.rf 0))

set_option maxHeartbeats 4000000 in
set_option maxRecDepth 100000 in
theorem c_append {S : St} {N : Nat → Nat → Int64} {X : St} {Y : Nat → Int64} {Q : Option Value → AH → Prop} {b : Nat} (hl : S 4 1 0 < 120) (hQ : Q none (hp (u3 (u3 S 4 0 (S 4 1 0) b) 4 1 0 (S 4 1 0 + 1)) N X Y)) : Cn 1 yX2_append cX2_append 2 none [.ref 57, .int (nI b)] (hp S N X Y) Q := by
  refine cn_of (own := RX2) (lo := [some (.ref 57), some (.int (nI b))]) 0 rfl (by decide +kernel) rfl (Nat.le_of_ble_eq_true rfl) ?_
  refine go_aloadn0 (q := 1) dX2_append_0 rfl ?_
  refine go_tg (q := 4) dX2_append_1 fl_X2_15 rfl rfl ?_
  refine go_bipushN (v := 120) (q := 6) dX2_append_4 (by decide) rfl ?_
  refine go_icmp_geN (tgt := 29) (q := 9) dX2_append_6 (by decide) rfl (by omega) (by omega) (fun h1 => ?_) (fun h1 => ?_)
  · skip
    exact absurd h1 (by omega)
  · skip
    refine go_aloadn0 (q := 10) dX2_append_9 rfl ?_
    refine go_tg (q := 13) dX2_append_10 fl_X2_9 rfl rfl ?_
    refine go_aloadn0 (q := 14) dX2_append_13 rfl ?_
    refine go_tg (q := 17) dX2_append_14 fl_X2_15 rfl rfl ?_
    refine go_iloadn1 (q := 18) dX2_append_17 rfl ?_
    refine go_tst (q := 19) dX2_append_18 hl rfl ?_
    have e : u3 S 4 0 (S 4 1 0) b 4 1 0 = S 4 1 0 := u3_nj _ (by decide)
    refine go_aloadn0 (q := 20) dX2_append_19 rfl ?_
    refine go_dup (q := 21) dX2_append_20 rfl rfl ?_
    refine go_tg (q := 24) dX2_append_21 fl_X2_15 rfl rfl ?_
    rw [e]
    refine go_iconstN (n := 1) (q := 25) dX2_append_24 rfl ?_
    refine go_iaddN (q := 26) dX2_append_25 rfl ?_
    refine go_tpf (f := 0) (q := 29) dX2_append_26 fp_X2_15 (by decide) rfl ?_
    exact go_ret0 dX2_append_29 rfl hQ

set_option maxHeartbeats 4000000 in
set_option maxRecDepth 100000 in
theorem c_wipe {S : St} {N : Nat → Nat → Int64} {X : St} {Y : Nat → Int64} {Q : Option Value → AH → Prop} (hO : ∀ S', S' 0 = S 0 → S' 1 = S 1 → S' 4 = u2 (S 4) 1 0 0 → S' 5 = S 5 → S' 6 = S 6 → Q (some (.int (nI (S 4 1 0)))) (hp S' N X Y)) : Cn 3 yX3_wipe cX3_wipe 2 (some .int) [.ref 0] (hp S N X Y) Q := by
  refine cn_of (own := RX3) (lo := [some (.ref 0), none]) 1 rfl (by decide +kernel) rfl (Nat.le_of_ble_eq_true rfl) ?_
  refine go_aloadn0 (q := 1) dX3_wipe_0 rfl ?_
  refine go_cg (q := 4) dX3_wipe_1 fl_X3_28 rfl rfl ?_
  refine go_tg (q := 7) dX3_wipe_4 fl_X3_218 rfl rfl ?_
  refine go_istoren1 (q := 8) dX3_wipe_7 rfl (by decide) rfl ?_
  refine go_aloadn0 (q := 9) dX3_wipe_8 rfl ?_
  refine go_cg (q := 12) dX3_wipe_9 fl_X3_28 rfl rfl ?_
  refine go_iconstN (n := 0) (q := 13) dX3_wipe_12 rfl ?_
  refine go_tpf (f := 0) (q := 16) dX3_wipe_13 fp_X3_218 (by decide) rfl ?_
  refine go_iloadn1 (q := 17) dX3_wipe_16 rfl ?_
  exact go_iret dX3_wipe_17 rfl (hO _ (u3_oth _ (by decide)) (u3_oth _ (by decide)) (u3_k _ _ _ _ _) (u3_oth _ (by decide)) (u3_oth _ (by decide)))

set_option maxHeartbeats 4000000 in
set_option maxRecDepth 100000 in
theorem c_feed_41 {S : St} {N : Nat → Nat → Int64} {X : St} {Y : Nat → Int64} {Q : Option Value → AH → Prop} {x : Int32} {n : Nat} (hn : 1 ≤ n ∧ n ≤ 4) (hl : S 4 1 0 + n ≤ 120) (hO : ∀ S', S' 0 = S 0 → S' 1 = S 1 → S' 4 = fdP (S 4) x n n → S' 5 = S 5 → S' 6 = S 6 → Q (some (.int (nI (S 4 1 0 + n)))) (hp S' N X Y)) : ∀ (fu : Nat) (m : Nat) (S1 : St), n - m < fu → (m ≤ n) → (S1 0 = S 0 ∧ S1 1 = S 1 ∧ S1 5 = S 5 ∧ S1 6 = S 6) → (S1 4 = fdP (S 4) x n m) → Go 3 RX3 cX3_feed 4 (some .int) 41 [some (.ref 0), some (.int x), some (.int (nI n)), some (.int (nI (n - m) - nI 1))] [] (hp S1 N X Y) Q := by
  intro fu
  induction fu with
  | zero => intro m S1 hfu; exact absurd hfu (Nat.not_lt_zero _)
  | succ fu ih =>
    intro m S1 hfu hm e0 e4
    have eL : S1 4 1 0 = S 4 1 0 + m := by rw [e4]; simp [fdP]
    refine go_iloadn3 (q := 42) dX3_feed_41 rfl ?_
    refine go_if_lt (tgt := 68) (q := 45) dX3_feed_42 (by decide) rfl (fun h1 => ?_) (fun h1 => ?_)
    · skip
      refine go_aloadn0 (q := 69) dX3_feed_68 rfl ?_
      refine go_cg (q := 72) dX3_feed_69 fl_X3_28 rfl rfl ?_
      have hmn : m = n := by
        rcases Nat.lt_or_ge m n with z | z
        · rw [pk_sub (show 1 ≤ n - m by omega)] at h1; exact absurd h1 (nI_pos (by omega))
        · omega
      refine go_tg (q := 75) dX3_feed_72 fl_X3_218 rfl rfl ?_
      rw [eL]
      exact go_iretN dX3_feed_75 rfl (by rw [hmn]) (hO _ e0.1 e0.2.1 (by rw [e4, hmn]) e0.2.2.1 e0.2.2.2)
    · skip
      have hmn : m < n := by
        rcases Nat.lt_or_ge m n with z | z
        · exact z
        · rw [show n - m = 0 by omega] at h1; exact absurd (by decide) h1
      rw [pk_sub (show 1 ≤ n - m by omega)]
      refine go_aloadn0 (q := 46) dX3_feed_45 rfl ?_
      refine go_cg (q := 49) dX3_feed_46 fl_X3_28 rfl rfl ?_
      refine go_iloadn1 (q := 50) dX3_feed_49 rfl ?_
      refine go_bipushN (v := 8) (q := 52) dX3_feed_50 (by decide) rfl ?_
      refine go_iloadn3 (q := 53) dX3_feed_52 rfl ?_
      refine go_imulN (q := 54) dX3_feed_53 rfl ?_
      refine go_iushr (q := 55) dX3_feed_54 rfl ?_
      refine go_sipushN (v := 255) (q := 58) dX3_feed_55 (by decide) rfl ?_
      refine go_iand (q := 59) dX3_feed_58 rfl ?_
      refine go_st (st' := [.int (nI (ub x (n - 1 - m))), .ref 57]) (by rw [m_byte x (by omega), show n - m - 1 = n - 1 - m by omega]) ?_
      refine go_it1 (q := 62) dX3_feed_59 lk_X3_221 (by decide) (by decide) (Nat.le_of_ble_eq_true rfl) rfl (c_append (by omega) ?_)
      refine go_iinc3 (q := 65) dX3_feed_62 rfl (by decide) rfl ?_
      refine go_goto (tgt := 41) dX3_feed_65 (by decide) ?_
      refine go_lo (lo' := [some (.ref 0), some (.int x), some (.int (nI n)), some (.int (nI (n - (m + 1)) - nI 1))]) (by rw [nI_m1, show n - m - 1 = n - (m + 1) by omega]) ?_
      exact ih (m + 1) _ (by omega) (by omega) ⟨by rw [u3_oth _ (by decide), u3_oth _ (by decide)]; exact e0.1, by rw [u3_oth _ (by decide), u3_oth _ (by decide)]; exact e0.2.1, by rw [u3_oth _ (by decide), u3_oth _ (by decide)]; exact e0.2.2.1, by rw [u3_oth _ (by decide), u3_oth _ (by decide)]; exact e0.2.2.2⟩ (by rw [u3_k, u3_k, eL, e4]; exact fdP_s _ _ _ _)

set_option maxHeartbeats 4000000 in
set_option maxRecDepth 100000 in
theorem c_feed {S : St} {N : Nat → Nat → Int64} {X : St} {Y : Nat → Int64} {Q : Option Value → AH → Prop} {x z : Int32} (hl0 : S 4 1 0 ≤ 120) (hB : ¬ rg z 1 4 → ∀ S', Cf S S' 0 → Q (some (.int (-1000000001))) (hp S' N X Y)) (hF : ∀ n, 1 ≤ n → n ≤ 4 → z = nI n → 120 < S 4 1 0 + n → ∀ S', Cf S S' 1 → Q (some (.int (-1000000002))) (hp S' N X Y)) (hO : ∀ n, 1 ≤ n → n ≤ 4 → z = nI n → ¬ 120 < S 4 1 0 + n → ∀ S', S' 0 = S 0 → S' 1 = S 1 → S' 4 = fdP (S 4) x n n → S' 5 = S 5 → S' 6 = S 6 → Q (some (.int (nI (S 4 1 0 + n)))) (hp S' N X Y)) : Cn 3 yX3_feed cX3_feed 4 (some .int) [.ref 0, .int x, .int z] (hp S N X Y) Q := by
  refine cn_of (own := RX3) (lo := [some (.ref 0), some (.int x), some (.int z), none]) 1 rfl (by decide +kernel) rfl (Nat.le_of_ble_eq_true rfl) ?_
  refine go_iloadn2 (q := 1) dX3_feed_0 rfl ?_
  refine go_iconstN (n := 1) (q := 2) dX3_feed_1 rfl ?_
  refine go_iconstN (n := 4) (q := 3) dX3_feed_2 rfl ?_
  refine go_is3_ (q := 6) dX3_feed_3 lk_X3_51 (by decide) (by decide) (Nat.le_of_ble_eq_true rfl) rfl (c_isWithin (l := 1) (m := 4) (by decide) (by decide) ?_)
  refine go_ifneB (tgt := 16) (q := 9) dX3_feed_6 (by decide) rfl (fun h1 => ?_) (fun h1 => ?_)
  · skip
    obtain ⟨n, hn, rfl, hn1, -⟩ := rg_nat (n := 4) h1 (by omega) (by omega)
    refine go_aloadn0 (q := 17) dX3_feed_16 rfl ?_
    refine go_cg (q := 20) dX3_feed_17 fl_X3_28 rfl rfl ?_
    refine go_tg (q := 23) dX3_feed_20 fl_X3_218 rfl rfl ?_
    refine go_bipushN (v := 120) (q := 25) dX3_feed_23 (by decide) rfl ?_
    refine go_iloadn2 (q := 26) dX3_feed_25 rfl ?_
    refine go_isubN (q := 27) dX3_feed_26 (by omega) rfl ?_
    refine go_icmp_leN (tgt := 37) (q := 30) dX3_feed_27 (by decide) rfl (by omega) (by omega) (fun h2 => ?_) (fun h2 => ?_)
    · skip
      refine go_iloadn2 (q := 38) dX3_feed_37 rfl ?_
      refine go_iconstN (n := 1) (q := 39) dX3_feed_38 rfl ?_
      refine go_isub (q := 40) dX3_feed_39 rfl ?_
      refine go_istoren3 (q := 41) dX3_feed_40 rfl (by decide) rfl ?_
      refine go_lo (lo' := [some (.ref 0), some (.int x), some (.int (nI n)), some (.int (nI (n - 0) - nI 1))]) rfl ?_
      exact c_feed_41 (by omega) (by omega) (hO n (by omega) hn rfl (by omega)) 5 0 S (by omega) (by omega) ⟨rfl, rfl, rfl, rfl⟩ (fdP_0 _ _ _).symm
    · skip
      refine go_aloadn0 (q := 31) dX3_feed_30 rfl ?_
      refine go_ldc (q := 33) dX3_feed_31 ko_X3_73 rfl ?_
      refine go_ic1 (q := 36) dX3_feed_33 lk_X3_56 (by decide) (by decide) (Nat.le_of_ble_eq_true rfl) rfl (c_finding (p := 1) (by decide) (by decide) ?_)
      exact go_iret dX3_feed_36 rfl (hF n (by omega) hn rfl (by omega) _ (Cf.rf 1))
  · skip
    refine go_aloadn0 (q := 10) dX3_feed_9 rfl ?_
    refine go_ldc (q := 12) dX3_feed_10 ko_X3_55 rfl ?_
    refine go_ic1 (q := 15) dX3_feed_12 lk_X3_56 (by decide) (by decide) (Nat.le_of_ble_eq_true rfl) rfl (c_finding (p := 0) (by decide) (by decide) ?_)
    exact go_iret dX3_feed_15 rfl (hB h1 _ (Cf.rf 0))

set_option maxHeartbeats 4000000 in
set_option maxRecDepth 100000 in
theorem c_isMissing {S : St} {N : Nat → Nat → Int64} {X : St} {Y : Nat → Int64} {Q : Option Value → AH → Prop} {t : Nat} (ht : t < 4) (hb : S 6 t 0 ≤ 64) (hQ : Q (some (.int (bI (S 6 t 0 = 0)))) (hp S N X Y)) : Cn 1 yX1_isMissing cX1_isMissing 1 (some .boolean) [.ref (so t)] (hp S N X Y) Q := by
  refine cn_of (own := RX1) (lo := [some (.ref (so t))]) 0 rfl (by decide +kernel) rfl (Nat.le_of_ble_eq_true rfl) ?_
  refine go_aloadn0 (q := 1) dX1_isMissing_0 rfl ?_
  refine go_sg (q := 4) dX1_isMissing_1 fl_X1_15 ht rfl rfl ?_
  refine go_if_neN (tgt := 11) (q := 7) dX1_isMissing_4 (by decide) rfl (by omega) (fun h1 => ?_) (fun h1 => ?_)
  · skip
    refine go_iconstN (n := 0) (q := 12) dX1_isMissing_11 rfl ?_
    exact go_zret0 dX1_isMissing_12 rfl h1 hQ
  · skip
    refine go_iconstN (n := 1) (q := 8) dX1_isMissing_7 rfl ?_
    refine go_goto (tgt := 12) dX1_isMissing_8 (by decide) ?_
    exact go_zret1 dX1_isMissing_12 rfl h1 hQ

set_option maxHeartbeats 4000000 in
set_option maxRecDepth 100000 in
theorem c_hasRun {S : St} {N : Nat → Nat → Int64} {X : St} {Y : Nat → Int64} {Q : Option Value → AH → Prop} {t : Nat} {x z : Int32} (ht : t < 4) (hl : S 6 t 1 ≤ 40) (hQ : Q (some (.int (bI (hrn (S 6 t 1) x z)))) (hp S N X Y)) : Cn 1 yX1_hasRun cX1_hasRun 3 (some .boolean) [.ref (so t), .int x, .int z] (hp S N X Y) Q := by
  have hz0 : (0 : Int32).toInt = 0 := by decide
  refine cn_of (own := RX1) (lo := [some (.ref (so t)), some (.int x), some (.int z)]) 0 rfl (by decide +kernel) rfl (Nat.le_of_ble_eq_true rfl) ?_
  refine go_iloadn1 (q := 1) dX1_hasRun_0 rfl ?_
  refine go_if_lt (tgt := 22) (q := 4) dX1_hasRun_1 (by decide) rfl (fun h1 => ?_) (fun h1 => ?_)
  · skip
    refine go_iconstN (n := 0) (q := 23) dX1_hasRun_22 rfl ?_
    exact go_zret0 dX1_hasRun_23 rfl (by rw [Int32.lt_iff_toInt_lt] at h1; omega) hQ
  · skip
    refine go_iloadn2 (q := 5) dX1_hasRun_4 rfl ?_
    refine go_if_lt (tgt := 22) (q := 8) dX1_hasRun_5 (by decide) rfl (fun h2 => ?_) (fun h2 => ?_)
    · skip
      refine go_iconstN (n := 0) (q := 23) dX1_hasRun_22 rfl ?_
      exact go_zret0 dX1_hasRun_23 rfl (by rw [Int32.lt_iff_toInt_lt] at h2; omega) hQ
    · skip
      refine go_iloadn1 (q := 9) dX1_hasRun_8 rfl ?_
      refine go_aloadn0 (q := 10) dX1_hasRun_9 rfl ?_
      refine go_sg (q := 13) dX1_hasRun_10 fl_X1_19 ht rfl rfl ?_
      refine go_iloadn2 (q := 14) dX1_hasRun_13 rfl ?_
      refine go_isub (q := 15) dX1_hasRun_14 rfl ?_
      refine go_icmp_gt (tgt := 22) (q := 18) dX1_hasRun_15 (by decide) rfl (fun h3 => ?_) (fun h3 => ?_)
      · skip
        refine go_iconstN (n := 0) (q := 23) dX1_hasRun_22 rfl ?_
        exact go_zret0 dX1_hasRun_23 rfl (by rw [Int32.lt_iff_toInt_lt] at h1 h2 h3; rw [sub_len hl (by omega)] at h3; omega) hQ
      · skip
        refine go_iconstN (n := 1) (q := 19) dX1_hasRun_18 rfl ?_
        refine go_goto (tgt := 23) dX1_hasRun_19 (by decide) ?_
        exact go_zret1 dX1_hasRun_23 rfl (by rw [Int32.lt_iff_toInt_lt] at h1 h2 h3; rw [sub_len hl (by omega)] at h3; omega) hQ

set_option maxHeartbeats 4000000 in
set_option maxRecDepth 100000 in
theorem c_lowest {S : St} {N : Nat → Nat → Int64} {X : St} {Y : Nat → Int64} {Q : Option Value → AH → Prop} {t : Nat} {v : Int64} (ht : t < 4) (hb : okB (S 6 t 0)) (hQ : Q (some (.long (lowB (S 6 t 0) v))) (hp S N X Y)) : Cn 1 yX1_lowestBits cX1_lowestBits 3 (some .long) [.ref (so t), .long v] (hp S N X Y) Q := by
  refine cn_of (own := RX1) (lo := [some (.ref (so t)), some (.long v), none]) 0 rfl (by decide +kernel) rfl (Nat.le_of_ble_eq_true rfl) ?_
  refine go_aloadn0 (q := 1) dX1_lowestBits_0 rfl ?_
  refine go_sg (q := 4) dX1_lowestBits_1 fl_X1_15 ht rfl rfl ?_
  rcases hb with hb | hb | hb | hb <;> rw [hb]
  · skip
    refine go_lookup (off := 38) (tgt := 42) dX1_lowestBits_4 (by decide) (by decide) (by decide) ?_
    refine go_lloadn1 (q := 43) dX1_lowestBits_42 rfl ?_
    exact go_lret dX1_lowestBits_43 rfl (by have h := hQ; rw [hb, show lowB 0 v = v by simp [lowB]] at h; exact h)
  · skip
    refine go_lookup (off := 28) (tgt := 32) dX1_lowestBits_4 (by decide) (by decide) (by decide) ?_
    refine go_lloadn1 (q := 33) dX1_lowestBits_32 rfl ?_
    refine go_l2i (q := 34) dX1_lowestBits_33 rfl ?_
    refine go_i2b (q := 35) dX1_lowestBits_34 rfl ?_
    refine go_i2l (q := 36) dX1_lowestBits_35 rfl ?_
    exact go_lret dX1_lowestBits_36 rfl (by have h := hQ; rw [hb, show lowB 8 v = v.toInt32.toInt8.toInt32.toInt64 by simp [lowB]] at h; exact h)
  · skip
    refine go_lookup (off := 33) (tgt := 37) dX1_lowestBits_4 (by decide) (by decide) (by decide) ?_
    refine go_lloadn1 (q := 38) dX1_lowestBits_37 rfl ?_
    refine go_l2i (q := 39) dX1_lowestBits_38 rfl ?_
    refine go_i2s (q := 40) dX1_lowestBits_39 rfl ?_
    refine go_i2l (q := 41) dX1_lowestBits_40 rfl ?_
    exact go_lret dX1_lowestBits_41 rfl (by have h := hQ; rw [hb, show lowB 16 v = v.toInt32.toInt16.toInt32.toInt64 by simp [lowB]] at h; exact h)
  · skip
    refine go_lookup (off := 38) (tgt := 42) dX1_lowestBits_4 (by decide) (by decide) (by decide) ?_
    refine go_lloadn1 (q := 43) dX1_lowestBits_42 rfl ?_
    exact go_lret dX1_lowestBits_43 rfl (by have h := hQ; rw [hb, show lowB 64 v = v by simp [lowB]] at h; exact h)

set_option maxHeartbeats 4000000 in
set_option maxRecDepth 100000 in
theorem c_put {S : St} {N : Nat → Nat → Int64} {X : St} {Y : Nat → Int64} {Q : Option Value → AH → Prop} {t i : Nat} {v : Int64} (ht : t < 4) (hi : i < 40) (hb : okB (S 6 t 0)) (hQ : Q none (hp S (uN2 N t i (lowB (S 6 t 0) v)) X Y)) : Cn 2 yX1_put cX1_put 4 none [.ref (so t), .int (nI i), .long v] (hp S N X Y) Q := by
  refine cn_of (own := RX1) (lo := [some (.ref (so t)), some (.int (nI i)), some (.long v), none]) 0 rfl (by decide +kernel) rfl (Nat.le_of_ble_eq_true rfl) ?_
  refine go_aloadn0 (q := 1) dX1_put_0 rfl ?_
  refine go_sg (q := 4) dX1_put_1 fl_X1_9 ht rfl rfl ?_
  refine go_iloadn1 (q := 5) dX1_put_4 rfl ?_
  refine go_aloadn0 (q := 6) dX1_put_5 rfl ?_
  refine go_lloadn2 (q := 7) dX1_put_6 rfl ?_
  refine go_is1 (q := 10) dX1_put_7 lk_X1_22 (by decide) (by decide) (Nat.le_of_ble_eq_true rfl) ht rfl (c_lowest ht hb ?_)
  refine go_sst (q := 11) dX1_put_10 ht hi rfl ?_
  exact go_ret0 dX1_put_11 rfl hQ

set_option maxHeartbeats 4000000 in
set_option maxRecDepth 100000 in
theorem c_begin_20 {S : St} {N : Nat → Nat → Int64} {X : St} {Y : Nat → Int64} {Q : Option Value → AH → Prop} {t b n L : Nat} {S1 : St} (ht : t < 4) (hL : S1 6 t 1 = L) (hQ : Q (some (.int (nI L))) (hp S1 (zN N t 40) X Y)) : ∀ (fu : Nat) (c : Nat), 40 - c < fu → (c ≤ 40) → Go 1 RX1 cX1_begin 4 (some .int) 20 [some (.ref (so t)), some (.int (nI b)), some (.int (nI n)), some (.int (nI c))] [] (hp S1 (zN N t c) X Y) Q := by
  intro fu
  induction fu with
  | zero => intro c hfu; exact absurd hfu (Nat.not_lt_zero _)
  | succ fu ih =>
    intro c hfu hc
    refine go_iloadn3 (q := 21) dX1_begin_20 rfl ?_
    refine go_bipushN (v := 40) (q := 23) dX1_begin_21 (by decide) rfl ?_
    refine go_icmp_geN (tgt := 39) (q := 26) dX1_begin_23 (by decide) rfl (by omega) (by omega) (fun h1 => ?_) (fun h1 => ?_)
    · skip
      refine go_aloadn0 (q := 40) dX1_begin_39 rfl ?_
      refine go_sg (q := 43) dX1_begin_40 fl_X1_19 ht rfl rfl ?_
      exact go_iretN dX1_begin_43 rfl hL.symm (by rw [show 40 = c by omega] at hQ; exact hQ)
    · skip
      refine go_aloadn0 (q := 27) dX1_begin_26 rfl ?_
      refine go_sg (q := 30) dX1_begin_27 fl_X1_9 ht rfl rfl ?_
      refine go_iloadn3 (q := 31) dX1_begin_30 rfl ?_
      refine go_lconst (q := 32) dX1_begin_31 rfl ?_
      refine go_sst (q := 33) dX1_begin_32 ht (by omega) rfl ?_
      rw [show Int64.ofNat ((0 : Fin 2) : Nat) = 0 from rfl, zN_s]
      refine go_iincN3 (n := 1) (q := 36) dX1_begin_33 rfl (by decide) rfl ?_
      refine go_goto (tgt := 20) dX1_begin_36 (by decide) ?_
      exact ih (c + 1) (by omega) (by omega)

set_option maxHeartbeats 4000000 in
set_option maxRecDepth 100000 in
theorem c_begin {S : St} {N : Nat → Nat → Int64} {X : St} {Y : Nat → Int64} {Q : Option Value → AH → Prop} {t b n : Nat} (ht : t < 4) (hb : b ≤ 64) (hQ : ∀ S', S' 6 = u2 (u2 (S 6) t 0 b) t 1 (if b = 0 then 0 else n) → (∀ a, a ≠ 6 → S' a = S a) → Q (some (.int (nI (if b = 0 then 0 else n)))) (hp S' (zN N t 40) X Y)) : Cn 1 yX1_begin cX1_begin 4 (some .int) [.ref (so t), .int (nI b), .int (nI n)] (hp S N X Y) Q := by
  refine cn_of (own := RX1) (lo := [some (.ref (so t)), some (.int (nI b)), some (.int (nI n)), none]) 1 rfl (by decide +kernel) rfl (Nat.le_of_ble_eq_true rfl) ?_
  refine go_aloadn0 (q := 1) dX1_begin_0 rfl ?_
  refine go_iloadn1 (q := 2) dX1_begin_1 rfl ?_
  refine go_spf (f := 0) (q := 5) dX1_begin_2 fp_X1_15 ht (by decide) rfl ?_
  refine go_aloadn0 (q := 6) dX1_begin_5 rfl ?_
  refine go_iloadn1 (q := 7) dX1_begin_6 rfl ?_
  refine go_if_neN (tgt := 14) (q := 10) dX1_begin_7 (by decide) rfl (by omega) (fun h1 => ?_) (fun h1 => ?_)
  · skip
    refine go_iloadn2 (q := 15) dX1_begin_14 rfl ?_
    refine go_spf (f := 1) (q := 18) dX1_begin_15 fp_X1_19 ht (by decide) rfl ?_
    refine go_iconstN (n := 0) (q := 19) dX1_begin_18 rfl ?_
    refine go_istoren3 (q := 20) dX1_begin_19 rfl (by decide) rfl ?_
    rw [if_neg h1] at hQ
    have k := hQ (u3 (u3 S 6 t 0 b) 6 t 1 n) (by rw [u3_k, u3_k]) (fun a ha => by rw [u3_oth _ ha, u3_oth _ ha])
    have z := c_begin_20 (S := S) (b := b) (n := n) (N := N) (X := X) (Y := Y) (Q := Q) (S1 := u3 (u3 S 6 t 0 b) 6 t 1 n) ht (u3_s _ _ _ _ _) k 41 0 (by omega) (by omega)
    rw [zN_0] at z
    exact z
  · skip
    refine go_iconstN (n := 0) (q := 11) dX1_begin_10 rfl ?_
    refine go_goto (tgt := 15) dX1_begin_11 (by decide) ?_
    refine go_spf (f := 1) (q := 18) dX1_begin_15 fp_X1_19 ht (by decide) rfl ?_
    refine go_iconstN (n := 0) (q := 19) dX1_begin_18 rfl ?_
    refine go_istoren3 (q := 20) dX1_begin_19 rfl (by decide) rfl ?_
    rw [if_pos h1] at hQ
    have k := hQ (u3 (u3 S 6 t 0 b) 6 t 1 0) (by rw [u3_k, u3_k]) (fun a ha => by rw [u3_oth _ ha, u3_oth _ ha])
    have z := c_begin_20 (S := S) (b := b) (n := n) (N := N) (X := X) (Y := Y) (Q := Q) (S1 := u3 (u3 S 6 t 0 b) 6 t 1 0) ht (u3_s _ _ _ _ _) k 41 0 (by omega) (by omega)
    rw [zN_0] at z
    exact z
