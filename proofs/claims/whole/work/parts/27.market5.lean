set_option maxHeartbeats 4000000 in
set_option maxRecDepth 100000 in
theorem c_richest_10 {S : St} {N : Nat → Nat → Int64} {X : St} {Y : Nat → Int64} {Q : Option Value → AH → Prop} {k : Nat} (hk : k < 4) (hw : WF (S k)) (hQ : Q (some (.int (nI (rch (purse (S k)) 3)))) (hp S N X Y)) : ∀ (fu : Nat) (t w : Nat), 3 - t < fu → (t ≤ 3) → (rch (purse (S k)) t = w) → Go 5 RX0 cX0_richest 5 (some .int) 10 [some (.ref (mo k)), some (.int (nI (purse (S k) w))), some (.int (nI w)), some (.int (nI (t + 1))), none] [] (hp S N X Y) Q := by
  intro fu
  induction fu with
  | zero => intro t w hfu; exact absurd hfu (Nat.not_lt_zero _)
  | succ fu ih =>
    intro t w hfu hc hb
    have hr := rch_le (purse (S k)) t
    have h5 := purse_le hw w
    have h6 := purse_le hw (t + 1)
    refine go_iloadn3 (q := 11) dX0_richest_10 rfl ?_
    refine go_iconstN (n := 4) (q := 12) dX0_richest_11 rfl ?_
    refine go_icmp_geN (tgt := 39) (q := 15) dX0_richest_12 (by decide) rfl (by omega) (by omega) (fun h3 => ?_) (fun h3 => ?_)
    · skip
      refine go_iloadn2 (q := 40) dX0_richest_39 rfl ?_
      exact go_iretN dX0_richest_40 rfl (by rw [← hb, show t = 3 by omega]) hQ
    · skip
      refine go_aloadn0 (q := 16) dX0_richest_15 rfl ?_
      refine go_iloadn3 (q := 17) dX0_richest_16 rfl ?_
      refine go_im1 (q := 20) dX0_richest_17 lk_X0_104 (by decide) (by decide) (Nat.le_of_ble_eq_true rfl) hk rfl (c_purseOf hk hw (by omega) ?_)
      refine go_istore4 (q := 22) dX0_richest_20 rfl (by decide) rfl ?_
      refine go_iload4 (q := 24) dX0_richest_22 rfl ?_
      refine go_iloadn1 (q := 25) dX0_richest_24 rfl ?_
      refine go_icmp_leN (tgt := 33) (q := 28) dX0_richest_25 (by decide) rfl (by omega) (by omega) (fun h4 => ?_) (fun h4 => ?_)
      · skip
        refine go_iincN3 (n := 1) (q := 36) dX0_richest_33 rfl (by decide) rfl ?_
        refine go_goto (tgt := 10) dX0_richest_36 (by decide) ?_
        refine go_forget (lo' := [some (.ref (mo k)), some (.int (nI (purse (S k) w))), some (.int (nI w)), some (.int (nI (t + 1 + 1))), none]) (fun i v hi => by match i, hi with | 0, h => exact h | 1, h => exact h | 2, h => exact h | 3, h => exact h | 4, h => cases h) ?_
        exact ih (t + 1) w (by omega) (by omega) (by unfold rch; rw [hb, if_neg (by omega)])
      · skip
        refine go_iload4 (q := 30) dX0_richest_28 rfl ?_
        refine go_istoren1 (q := 31) dX0_richest_30 rfl (by decide) rfl ?_
        refine go_iloadn3 (q := 32) dX0_richest_31 rfl ?_
        refine go_istoren2 (q := 33) dX0_richest_32 rfl (by decide) rfl ?_
        refine go_iincN3 (n := 1) (q := 36) dX0_richest_33 rfl (by decide) rfl ?_
        refine go_goto (tgt := 10) dX0_richest_36 (by decide) ?_
        refine go_forget (lo' := [some (.ref (mo k)), some (.int (nI (purse (S k) (t + 1)))), some (.int (nI (t + 1))), some (.int (nI (t + 1 + 1))), none]) (fun i v hi => by match i, hi with | 0, h => exact h | 1, h => exact h | 2, h => exact h | 3, h => exact h | 4, h => cases h) ?_
        exact ih (t + 1) (t + 1) (by omega) (by omega) (by unfold rch; rw [hb, if_pos (by omega)])

set_option maxHeartbeats 4000000 in
set_option maxRecDepth 100000 in
theorem c_richest {S : St} {N : Nat → Nat → Int64} {X : St} {Y : Nat → Int64} {Q : Option Value → AH → Prop} {k : Nat} (hk : k < 4) (hw : WF (S k)) (hQ : Q (some (.int (nI (rch (purse (S k)) 3)))) (hp S N X Y)) : Cn 5 yX0_richest cX0_richest 5 (some .int) [.ref (mo k)] (hp S N X Y) Q := by
  refine cn_of (own := RX0) (lo := [some (.ref (mo k)), none, none, none, none]) 4 rfl (by decide +kernel) rfl (Nat.le_of_ble_eq_true rfl) ?_
  refine go_aloadn0 (q := 1) dX0_richest_0 rfl ?_
  refine go_iconstN (n := 0) (q := 2) dX0_richest_1 rfl ?_
  refine go_im1 (q := 5) dX0_richest_2 lk_X0_104 (by decide) (by decide) (Nat.le_of_ble_eq_true rfl) hk rfl (c_purseOf hk hw (by decide) ?_)
  refine go_istoren1 (q := 6) dX0_richest_5 rfl (by decide) rfl ?_
  refine go_iconstN (n := 0) (q := 7) dX0_richest_6 rfl ?_
  refine go_istoren2 (q := 8) dX0_richest_7 rfl (by decide) rfl ?_
  refine go_iconstN (n := 1) (q := 9) dX0_richest_8 rfl ?_
  refine go_istoren3 (q := 10) dX0_richest_9 rfl (by decide) rfl ?_
  exact c_richest_10 hk hw hQ 4 0 0 (by omega) (by omega) rfl

set_option maxHeartbeats 4000000 in
set_option maxRecDepth 100000 in
theorem c_most_17 {S : St} {N : Nat → Nat → Int64} {X : St} {Y : Nat → Int64} {Q : Option Value → AH → Prop} {k t m : Nat} {x : Int32} (hk : k < 4) (hw : WF (S k)) (ht : t < 4) (K : ∀ c, Go 2 RX0 cX0_ownerOfMostBlue 6 (some .int) 59 [some (.ref (mo k)), some (.int (nI m)), some (.int x), some (.int (nI t)), some (.int (nI (bl (S k) t))), some (.int (nI c))] [] (hp S N X Y) Q) : ∀ (fu : Nat) (c a : Nat), S k 13 0 - c < fu → (c ≤ S k 13 0) → (sm (fun c => if snd (S k) t c ∧ blue (S k 0 c) then 1 else 0) c = a) → Go 2 RX0 cX0_ownerOfMostBlue 6 (some .int) 17 [some (.ref (mo k)), some (.int (nI m)), some (.int x), some (.int (nI t)), some (.int (nI a)), some (.int (nI c))] [] (hp S N X Y) Q := by
  intro fu
  induction fu with
  | zero => intro c a hfu; exact absurd hfu (Nat.not_lt_zero _)
  | succ fu ih =>
    intro c a hfu hc ha
    have h2 := hw.co
    have h7 := hw.kd c
    refine go_iload5 (q := 19) dX0_ownerOfMostBlue_17 rfl ?_
    refine go_aloadn0 (q := 20) dX0_ownerOfMostBlue_19 rfl ?_
    refine go_mg (q := 23) dX0_ownerOfMostBlue_20 fl_X0_51 hk rfl rfl ?_
    refine go_icmp_geN (tgt := 59) (q := 26) dX0_ownerOfMostBlue_23 (by decide) rfl (by omega) (by omega) (fun h3 => ?_) (fun h3 => ?_)
    · skip
      have e : bl (S k) t = a := by rw [← ha, show c = S k 13 0 by omega]; rfl
      rw [← e]
      exact K c
    · skip
      refine go_aloadn0 (q := 27) dX0_ownerOfMostBlue_26 rfl ?_
      refine go_iload5 (q := 29) dX0_ownerOfMostBlue_27 rfl ?_
      refine go_iloadn3 (q := 30) dX0_ownerOfMostBlue_29 rfl ?_
      refine go_im2 (q := 33) dX0_ownerOfMostBlue_30 lk_X0_91 (by decide) (by decide) (Nat.le_of_ble_eq_true rfl) hk rfl (c_isSoundOf hk hw (by omega) (by omega) ?_)
      refine go_ifeqB (tgt := 53) (q := 36) dX0_ownerOfMostBlue_33 (by decide) rfl (fun h4 => ?_) (fun h4 => ?_)
      · skip
        refine go_iincN5 (n := 1) (q := 56) dX0_ownerOfMostBlue_53 rfl (by decide) rfl ?_
        refine go_goto (tgt := 17) dX0_ownerOfMostBlue_56 (by decide) ?_
        exact ih (c + 1) a (by omega) (by omega) (by rw [sm_s, ha, if_neg (fun z => h4 z.1)]; rfl)
      · skip
        refine go_aloadn0 (q := 37) dX0_ownerOfMostBlue_36 rfl ?_
        refine go_mg (q := 40) dX0_ownerOfMostBlue_37 fl_X0_9 hk rfl rfl ?_
        refine go_iload5 (q := 42) dX0_ownerOfMostBlue_40 rfl ?_
        refine go_mld (q := 43) dX0_ownerOfMostBlue_42 hk (by decide) (show c < 12 by omega) rfl ?_
        refine go_iconstN (n := 1) (q := 44) dX0_ownerOfMostBlue_43 rfl ?_
        refine go_is2_ (q := 47) dX0_ownerOfMostBlue_44 lk_X0_76 (by decide) (by decide) (Nat.le_of_ble_eq_true rfl) rfl (c_isUnder h7 (by decide) ?_)
        refine go_ifeqB (tgt := 53) (q := 50) dX0_ownerOfMostBlue_47 (by decide) rfl (fun h5 => ?_) (fun h5 => ?_)
        · skip
          refine go_iincN5 (n := 1) (q := 56) dX0_ownerOfMostBlue_53 rfl (by decide) rfl ?_
          refine go_goto (tgt := 17) dX0_ownerOfMostBlue_56 (by decide) ?_
          exact ih (c + 1) a (by omega) (by omega) (by rw [sm_s, ha, if_neg (fun z => h5 (by have := z.2; omega))]; rfl)
        · skip
          refine go_iincN4 (n := 1) (q := 53) dX0_ownerOfMostBlue_50 rfl (by decide) rfl ?_
          refine go_iincN5 (n := 1) (q := 56) dX0_ownerOfMostBlue_53 rfl (by decide) rfl ?_
          refine go_goto (tgt := 17) dX0_ownerOfMostBlue_56 (by decide) ?_
          exact ih (c + 1) (a + 1) (by omega) (by omega) (by rw [sm_s, ha, if_pos ⟨h4, by omega⟩])

theorem bl_le {M : Mk} (h : WF M) (o : Nat) : bl M o ≤ 12 := by
  have h1 : bl M o ≤ M 13 0 * 1 := sm_le (fun c _ => by split <;> omega)
  have := h.co
  omega

set_option maxHeartbeats 4000000 in
set_option maxRecDepth 100000 in
theorem c_most_6 {S : St} {N : Nat → Nat → Int64} {X : St} {Y : Nat → Int64} {Q : Option Value → AH → Prop} {k : Nat} (hk : k < 4) (hw : WF (S k)) (hQ : Q (some (.int (nI (mbl (bl (S k)) 4) - nI 1))) (hp S N X Y)) : ∀ (fu : Nat) (t w : Nat), 4 - t < fu → (t ≤ 4) → (mbl (bl (S k)) t = w) → Go 2 RX0 cX0_ownerOfMostBlue 6 (some .int) 6 [some (.ref (mo k)), some (.int (nI (mblv (bl (S k)) w))), some (.int (nI w - nI 1)), some (.int (nI t)), none, none] [] (hp S N X Y) Q := by
  intro fu
  induction fu with
  | zero => intro t w hfu; exact absurd hfu (Nat.not_lt_zero _)
  | succ fu ih =>
    intro t w hfu hc hb
    have hr := mbl_le (bl (S k)) t
    have h5 : mblv (bl (S k)) w ≤ 12 := by unfold mblv; split; omega; exact bl_le hw _
    have h6 := bl_le hw t
    refine go_iloadn3 (q := 7) dX0_ownerOfMostBlue_6 rfl ?_
    refine go_iconstN (n := 4) (q := 8) dX0_ownerOfMostBlue_7 rfl ?_
    refine go_icmp_geN (tgt := 76) (q := 11) dX0_ownerOfMostBlue_8 (by decide) rfl (by omega) (by omega) (fun h3 => ?_) (fun h3 => ?_)
    · skip
      refine go_iloadn2 (q := 77) dX0_ownerOfMostBlue_76 rfl ?_
      exact go_iretE dX0_ownerOfMostBlue_77 rfl (by rw [← hb, show t = 4 by omega]) hQ
    · skip
      refine go_iconstN (n := 0) (q := 12) dX0_ownerOfMostBlue_11 rfl ?_
      refine go_istore4 (q := 14) dX0_ownerOfMostBlue_12 rfl (by decide) rfl ?_
      refine go_iconstN (n := 0) (q := 15) dX0_ownerOfMostBlue_14 rfl ?_
      refine go_istore5 (q := 17) dX0_ownerOfMostBlue_15 rfl (by decide) rfl ?_
      refine c_most_17 hk hw (by omega) (fun c => ?_) (S k 13 0 + 1) 0 0 (by omega) (by omega) rfl
      refine go_iload4 (q := 61) dX0_ownerOfMostBlue_59 rfl ?_
      refine go_iloadn1 (q := 62) dX0_ownerOfMostBlue_61 rfl ?_
      refine go_icmp_leN (tgt := 70) (q := 65) dX0_ownerOfMostBlue_62 (by decide) rfl (by omega) (by omega) (fun h4 => ?_) (fun h4 => ?_)
      · skip
        refine go_iincN3 (n := 1) (q := 73) dX0_ownerOfMostBlue_70 rfl (by decide) rfl ?_
        refine go_goto (tgt := 6) dX0_ownerOfMostBlue_73 (by decide) ?_
        refine go_forget (lo' := [some (.ref (mo k)), some (.int (nI (mblv (bl (S k)) w))), some (.int (nI w - nI 1)), some (.int (nI (t + 1))), none, none]) (fun i v hi => by match i, hi with | 0, h => exact h | 1, h => exact h | 2, h => exact h | 3, h => exact h | 4, h => cases h | 5, h => cases h) ?_
        exact ih (t + 1) w (by omega) (by omega) (by unfold mbl; rw [hb, if_neg (by omega)])
      · skip
        refine go_iload4 (q := 67) dX0_ownerOfMostBlue_65 rfl ?_
        refine go_istoren1 (q := 68) dX0_ownerOfMostBlue_67 rfl (by decide) rfl ?_
        refine go_iloadn3 (q := 69) dX0_ownerOfMostBlue_68 rfl ?_
        refine go_istoren2 (q := 70) dX0_ownerOfMostBlue_69 rfl (by decide) rfl ?_
        refine go_iincN3 (n := 1) (q := 73) dX0_ownerOfMostBlue_70 rfl (by decide) rfl ?_
        refine go_goto (tgt := 6) dX0_ownerOfMostBlue_73 (by decide) ?_
        refine go_lo (lo' := [some (.ref (mo k)), some (.int (nI (mblv (bl (S k)) (t + 1)))), some (.int (nI (t + 1) - nI 1)), some (.int (nI (t + 1))), some (.int (nI (bl (S k) t))), some (.int (nI c))]) (by rw [pk_sub (show 1 ≤ t + 1 by omega), Nat.add_sub_cancel]; rfl) ?_
        refine go_forget (lo' := [some (.ref (mo k)), some (.int (nI (mblv (bl (S k)) (t + 1)))), some (.int (nI (t + 1) - nI 1)), some (.int (nI (t + 1))), none, none]) (fun i v hi => by match i, hi with | 0, h => exact h | 1, h => exact h | 2, h => exact h | 3, h => exact h | 4, h => cases h | 5, h => cases h) ?_
        exact ih (t + 1) (t + 1) (by omega) (by omega) (by unfold mbl; rw [hb, if_pos (by omega)])

set_option maxHeartbeats 4000000 in
set_option maxRecDepth 100000 in
theorem c_mostBlue {S : St} {N : Nat → Nat → Int64} {X : St} {Y : Nat → Int64} {Q : Option Value → AH → Prop} {k : Nat} (hk : k < 4) (hw : WF (S k)) (hQ : Q (some (.int (nI (mbl (bl (S k)) 4) - nI 1))) (hp S N X Y)) : Cn 2 yX0_ownerOfMostBlue cX0_ownerOfMostBlue 6 (some .int) [.ref (mo k)] (hp S N X Y) Q := by
  refine cn_of (own := RX0) (lo := [some (.ref (mo k)), none, none, none, none, none]) 5 rfl (by decide +kernel) rfl (Nat.le_of_ble_eq_true rfl) ?_
  refine go_iconstN (n := 0) (q := 1) dX0_ownerOfMostBlue_0 rfl ?_
  refine go_istoren1 (q := 2) dX0_ownerOfMostBlue_1 rfl (by decide) rfl ?_
  refine go_iconstV (v := -1) (q := 3) dX0_ownerOfMostBlue_2 (by decide) rfl ?_
  refine go_istoren2 (q := 4) dX0_ownerOfMostBlue_3 rfl (by decide) rfl ?_
  refine go_iconstN (n := 0) (q := 5) dX0_ownerOfMostBlue_4 rfl ?_
  refine go_istoren3 (q := 6) dX0_ownerOfMostBlue_5 rfl (by decide) rfl ?_
  refine go_lo (lo' := [some (.ref (mo k)), some (.int (nI (mblv (bl (S k)) 0))), some (.int (nI 0 - nI 1)), some (.int (nI 0)), none, none]) rfl ?_
  exact c_most_6 hk hw hQ 5 0 0 (by omega) (by omega) rfl

set_option maxHeartbeats 4000000 in
set_option maxRecDepth 100000 in
theorem c_become {S : St} {N : Nat → Nat → Int64} {X : St} {Y : Nat → Int64} {Q : Option Value → AH → Prop} {a b : Nat} (ha : a < 4) (hb : b < 4) (hab : a ≠ b) (hQ : ∀ S', Ch S S' b (S a) → Q none (hp S' N X Y)) : Cn 2 yX0_become cX0_become 2 none [.ref (mo b), .ref (mo a)] (hp S N X Y) Q := by
  refine cn_of (own := RX0) (lo := [some (.ref (mo b)), some (.ref (mo a))]) 0 rfl (by decide +kernel) rfl (Nat.le_of_ble_eq_true rfl) ?_
  refine go_aloadn0 (q := 1) dX0_become_0 rfl ?_
  refine go_aloadn1 (q := 2) dX0_become_1 rfl ?_
  refine go_mg (q := 5) dX0_become_2 fl_X0_51 ha rfl rfl ?_
  refine go_mpf (f := 0) (q := 8) dX0_become_5 fp_X0_51 hb (by decide) rfl ?_
  refine go_aloadn0 (q := 9) dX0_become_8 rfl ?_
  refine go_aloadn1 (q := 10) dX0_become_9 rfl ?_
  refine go_mg (q := 13) dX0_become_10 fl_X0_55 ha rfl rfl ?_
  refine go_mpf (f := 1) (q := 16) dX0_become_13 fp_X0_55 hb (by decide) rfl ?_
  refine go_aloadn0 (q := 17) dX0_become_16 rfl ?_
  refine go_aloadn1 (q := 18) dX0_become_17 rfl ?_
  refine go_mg (q := 21) dX0_become_18 fl_X0_58 ha rfl rfl ?_
  refine go_mpf (f := 2) (q := 24) dX0_become_21 fp_X0_58 hb (by decide) rfl ?_
  refine go_aloadn0 (q := 25) dX0_become_24 rfl ?_
  refine go_aloadn1 (q := 26) dX0_become_25 rfl ?_
  refine go_mg (q := 29) dX0_become_26 fl_X0_61 ha rfl rfl ?_
  refine go_mpf (f := 3) (q := 32) dX0_become_29 fp_X0_61 hb (by decide) rfl ?_
  refine go_aloadn1 (q := 33) dX0_become_32 rfl ?_
  refine go_mg (q := 36) dX0_become_33 fl_X0_9 ha rfl rfl ?_
  refine go_iconstN (n := 0) (q := 37) dX0_become_36 rfl ?_
  refine go_aloadn0 (q := 38) dX0_become_37 rfl ?_
  refine go_mg (q := 41) dX0_become_38 fl_X0_9 hb rfl rfl ?_
  refine go_iconstN (n := 0) (q := 42) dX0_become_41 rfl ?_
  refine go_bipushN (v := 12) (q := 44) dX0_become_42 (by decide) rfl ?_
  refine go_mcopy (j := 0) (q := 47) dX0_become_44 la_X0_64 ha hb (by decide) (by decide) (by decide) (Nat.le_of_ble_eq_true rfl) rfl ?_
  refine go_aloadn1 (q := 48) dX0_become_47 rfl ?_
  refine go_mg (q := 51) dX0_become_48 fl_X0_15 ha rfl rfl ?_
  refine go_iconstN (n := 0) (q := 52) dX0_become_51 rfl ?_
  refine go_aloadn0 (q := 53) dX0_become_52 rfl ?_
  refine go_mg (q := 56) dX0_become_53 fl_X0_15 hb rfl rfl ?_
  refine go_iconstN (n := 0) (q := 57) dX0_become_56 rfl ?_
  refine go_bipushN (v := 12) (q := 59) dX0_become_57 (by decide) rfl ?_
  refine go_mcopy (j := 1) (q := 62) dX0_become_59 la_X0_64 ha hb (by decide) (by decide) (by decide) (Nat.le_of_ble_eq_true rfl) rfl ?_
  refine go_aloadn1 (q := 63) dX0_become_62 rfl ?_
  refine go_mg (q := 66) dX0_become_63 fl_X0_18 ha rfl rfl ?_
  refine go_iconstN (n := 0) (q := 67) dX0_become_66 rfl ?_
  refine go_aloadn0 (q := 68) dX0_become_67 rfl ?_
  refine go_mg (q := 71) dX0_become_68 fl_X0_18 hb rfl rfl ?_
  refine go_iconstN (n := 0) (q := 72) dX0_become_71 rfl ?_
  refine go_bipushN (v := 12) (q := 74) dX0_become_72 (by decide) rfl ?_
  refine go_mcopy (j := 2) (q := 77) dX0_become_74 la_X0_64 ha hb (by decide) (by decide) (by decide) (Nat.le_of_ble_eq_true rfl) rfl ?_
  refine go_aloadn1 (q := 78) dX0_become_77 rfl ?_
  refine go_mg (q := 81) dX0_become_78 fl_X0_21 ha rfl rfl ?_
  refine go_iconstN (n := 0) (q := 82) dX0_become_81 rfl ?_
  refine go_aloadn0 (q := 83) dX0_become_82 rfl ?_
  refine go_mg (q := 86) dX0_become_83 fl_X0_21 hb rfl rfl ?_
  refine go_iconstN (n := 0) (q := 87) dX0_become_86 rfl ?_
  refine go_bipushN (v := 12) (q := 89) dX0_become_87 (by decide) rfl ?_
  refine go_mcopy (j := 3) (q := 92) dX0_become_89 la_X0_64 ha hb (by decide) (by decide) (by decide) (Nat.le_of_ble_eq_true rfl) rfl ?_
  refine go_aloadn1 (q := 93) dX0_become_92 rfl ?_
  refine go_mg (q := 96) dX0_become_93 fl_X0_24 ha rfl rfl ?_
  refine go_iconstN (n := 0) (q := 97) dX0_become_96 rfl ?_
  refine go_aloadn0 (q := 98) dX0_become_97 rfl ?_
  refine go_mg (q := 101) dX0_become_98 fl_X0_24 hb rfl rfl ?_
  refine go_iconstN (n := 0) (q := 102) dX0_become_101 rfl ?_
  refine go_iconstN (n := 4) (q := 103) dX0_become_102 rfl ?_
  refine go_mcopy (j := 4) (q := 106) dX0_become_103 la_X0_64 ha hb (by decide) (by decide) (by decide) (Nat.le_of_ble_eq_true rfl) rfl ?_
  refine go_aloadn1 (q := 107) dX0_become_106 rfl ?_
  refine go_mg (q := 110) dX0_become_107 fl_X0_27 ha rfl rfl ?_
  refine go_iconstN (n := 0) (q := 111) dX0_become_110 rfl ?_
  refine go_aloadn0 (q := 112) dX0_become_111 rfl ?_
  refine go_mg (q := 115) dX0_become_112 fl_X0_27 hb rfl rfl ?_
  refine go_iconstN (n := 0) (q := 116) dX0_become_115 rfl ?_
  refine go_bipushN (v := 12) (q := 118) dX0_become_116 (by decide) rfl ?_
  refine go_mcopy (j := 5) (q := 121) dX0_become_118 la_X0_64 ha hb (by decide) (by decide) (by decide) (Nat.le_of_ble_eq_true rfl) rfl ?_
  refine go_aloadn1 (q := 122) dX0_become_121 rfl ?_
  refine go_mg (q := 125) dX0_become_122 fl_X0_30 ha rfl rfl ?_
  refine go_iconstN (n := 0) (q := 126) dX0_become_125 rfl ?_
  refine go_aloadn0 (q := 127) dX0_become_126 rfl ?_
  refine go_mg (q := 130) dX0_become_127 fl_X0_30 hb rfl rfl ?_
  refine go_iconstN (n := 0) (q := 131) dX0_become_130 rfl ?_
  refine go_bipushN (v := 8) (q := 133) dX0_become_131 (by decide) rfl ?_
  refine go_mcopy (j := 6) (q := 136) dX0_become_133 la_X0_64 ha hb (by decide) (by decide) (by decide) (Nat.le_of_ble_eq_true rfl) rfl ?_
  refine go_aloadn1 (q := 137) dX0_become_136 rfl ?_
  refine go_mg (q := 140) dX0_become_137 fl_X0_33 ha rfl rfl ?_
  refine go_iconstN (n := 0) (q := 141) dX0_become_140 rfl ?_
  refine go_aloadn0 (q := 142) dX0_become_141 rfl ?_
  refine go_mg (q := 145) dX0_become_142 fl_X0_33 hb rfl rfl ?_
  refine go_iconstN (n := 0) (q := 146) dX0_become_145 rfl ?_
  refine go_bipushN (v := 8) (q := 148) dX0_become_146 (by decide) rfl ?_
  refine go_mcopy (j := 7) (q := 151) dX0_become_148 la_X0_64 ha hb (by decide) (by decide) (by decide) (Nat.le_of_ble_eq_true rfl) rfl ?_
  refine go_aloadn1 (q := 152) dX0_become_151 rfl ?_
  refine go_mg (q := 155) dX0_become_152 fl_X0_36 ha rfl rfl ?_
  refine go_iconstN (n := 0) (q := 156) dX0_become_155 rfl ?_
  refine go_aloadn0 (q := 157) dX0_become_156 rfl ?_
  refine go_mg (q := 160) dX0_become_157 fl_X0_36 hb rfl rfl ?_
  refine go_iconstN (n := 0) (q := 161) dX0_become_160 rfl ?_
  refine go_bipushN (v := 8) (q := 163) dX0_become_161 (by decide) rfl ?_
  refine go_mcopy (j := 8) (q := 166) dX0_become_163 la_X0_64 ha hb (by decide) (by decide) (by decide) (Nat.le_of_ble_eq_true rfl) rfl ?_
  refine go_aloadn1 (q := 167) dX0_become_166 rfl ?_
  refine go_mg (q := 170) dX0_become_167 fl_X0_39 ha rfl rfl ?_
  refine go_iconstN (n := 0) (q := 171) dX0_become_170 rfl ?_
  refine go_aloadn0 (q := 172) dX0_become_171 rfl ?_
  refine go_mg (q := 175) dX0_become_172 fl_X0_39 hb rfl rfl ?_
  refine go_iconstN (n := 0) (q := 176) dX0_become_175 rfl ?_
  refine go_bipushN (v := 8) (q := 178) dX0_become_176 (by decide) rfl ?_
  refine go_mcopy (j := 9) (q := 181) dX0_become_178 la_X0_64 ha hb (by decide) (by decide) (by decide) (Nat.le_of_ble_eq_true rfl) rfl ?_
  refine go_aloadn1 (q := 182) dX0_become_181 rfl ?_
  refine go_mg (q := 185) dX0_become_182 fl_X0_42 ha rfl rfl ?_
  refine go_iconstN (n := 0) (q := 186) dX0_become_185 rfl ?_
  refine go_aloadn0 (q := 187) dX0_become_186 rfl ?_
  refine go_mg (q := 190) dX0_become_187 fl_X0_42 hb rfl rfl ?_
  refine go_iconstN (n := 0) (q := 191) dX0_become_190 rfl ?_
  refine go_bipushN (v := 8) (q := 193) dX0_become_191 (by decide) rfl ?_
  refine go_mcopy (j := 10) (q := 196) dX0_become_193 la_X0_64 ha hb (by decide) (by decide) (by decide) (Nat.le_of_ble_eq_true rfl) rfl ?_
  refine go_ret0 dX0_become_196 rfl ?_
  have e : ∀ (Z : St), (∀ k, k < 4 → (∀ j, j < 11 → Z k j = (if k = b then S a else S k) j) ∧ ∀ f, f < 4 → Z k 13 f = (if k = b then S a else S k) 13 f) → (∀ k, 4 ≤ k → Z k = S k) → Q none (hp Z N X Y) := fun Z h1 h2 => by
    have e1 : hp Z N X Y = hp (fun x => if x = b then S a else S x) N X Y := hp_cong h1 (fun k hk => by rw [h2 k hk, if_neg (by omega)])
    rw [e1]
    exact hQ _ ⟨if_pos rfl, fun x hx _ => if_neg hx⟩
  refine e _ (fun k hk => ⟨fun j hj => ?_, fun f hf => ?_⟩) (fun k hk => ?_)
  · have hj2 : j = 0 ∨ j = 1 ∨ j = 2 ∨ j = 3 ∨ j = 4 ∨ j = 5 ∨ j = 6 ∨ j = 7 ∨ j = 8 ∨ j = 9 ∨ j = 10 := by omega
    funext c
    by_cases hkb : k = b
    · subst hkb; rw [if_pos rfl]; rcases hj2 with rfl | rfl | rfl | rfl | rfl | rfl | rfl | rfl | rfl | rfl | rfl <;> simp [u3r, u3, hab]
    · rw [if_neg hkb]; simp [u3r, u3, hkb]
  · have hf2 : f = 0 ∨ f = 1 ∨ f = 2 ∨ f = 3 := by omega
    by_cases hkb : k = b
    · subst hkb; rw [if_pos rfl]; rcases hf2 with rfl | rfl | rfl | rfl <;> simp [u3r, u3, hab]
    · rw [if_neg hkb]; simp [u3r, u3, hkb]
  · have hkb : k ≠ b := by omega
    funext x c
    simp [u3r, u3, hkb]
