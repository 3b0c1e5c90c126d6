theorem fil_1 (a : Nat) (v : Int32) (f : Nat → Int32) : upd f a v = fil a v 1 f := by
  have h := fil_s a v 0 f
  rw [fil_0] at h
  exact h
def mW (β : Nat → Nat) (cA : Nat → ClassId) : va_W := [(β 0, .inr (0, [.ref (β 1), .ref (β 2), .ref (β 3), .ref (β 4), .ref (β 5), .ref (β 6), .ref (β 7), .ref (β 8), .ref (β 9), .ref (β 10), .ref (β 11), .ref (β 12), .ref (β 13), .int 0, .int 0, .int 0, .int 0])), (β 1, .inl (cA 0, 12, .inl (fun _ => 0))), (β 2, .inl (cA 0, 12, .inl (fun _ => 0))), (β 3, .inl (cA 0, 12, .inl (fun _ => 0))), (β 4, .inl (cA 0, 12, .inl (fun _ => 0))), (β 5, .inl (cA 0, 4, .inl (fil 0 (nI 5) 4 (fun _ => 0)))), (β 6, .inl (cA 0, 12, .inl (fil 0 (nI 10) 12 (fun _ => 0)))), (β 7, .inl (cA 0, 8, .inl (fun _ => 0))), (β 8, .inl (cA 0, 8, .inl (fun _ => 0))), (β 9, .inl (cA 0, 8, .inl (fun _ => 0))), (β 10, .inl (cA 0, 8, .inl (fun _ => 0))), (β 11, .inl (cA 0, 8, .inl (fun _ => 0))), (β 12, .inl (cA 0, 12, .inl (fun _ => 0))), (β 13, .inl (cA 0, 12, .inl (fun _ => 0)))]
set_option maxHeartbeats 4000000 in
set_option maxRecDepth 100000 in
theorem i_market : Ci 2 13 128 yX0_init cX0_init 2 0 [.null, .null, .null, .null, .null, .null, .null, .null, .null, .null, .null, .null, .null, .int 0, .int 0, .int 0, .int 0] (fun cA h0 w => ∃ β : Nat → Nat, β 0 = h0 ∧ w = mW β cA) := by
  refine ci_of (own := RX0) (by decide +kernel) rfl rfl (by decide) (fun cA h0 => ?_)
  refine bo_aload0 (q := 1) dX0_init_0 rfl ?_
  refine bo_obj (q := 4) dX0_init_1 mo_X0 im_obj cd_obj (by decide) (by decide) rfl ?_
  refine bo_aload0 (q := 5) dX0_init_4 rfl ?_
  refine bo_bipush (v := nI 12) (q := 7) dX0_init_5 (by decide) rfl ?_
  refine bo_newa (atype := .int) (ty := .int) (j := 0) (N' := 12) (a0 := (12, .inl (fun _ => 0))) (q := 9) dX0_init_7 rfl ac_int (fun _ => rfl) (fun _ _ h => h) (fun _ => rfl) (by decide) (by decide) (by decide) (by decide) (by decide) rfl (fun r0 => ?_)
  refine bo_putF (ci := 0) (kf := 0) (N := 17) (Cn' := RX0) (T := TX0) (ty0 := tyX0) (ty := .array .int) (q := 12) dX0_init_9 rfl tyX0_ok nmX0 fl_X0_9 rfl rfl (by decide +kernel) rfl rfl (Nat.le_of_ble_eq_true rfl) rfl ?_
  refine bo_aload0 (q := 13) dX0_init_12 rfl ?_
  refine bo_bipush (v := nI 12) (q := 15) dX0_init_13 (by decide) rfl ?_
  refine bo_newa (atype := .int) (ty := .int) (j := 0) (N' := 12) (a0 := (12, .inl (fun _ => 0))) (q := 17) dX0_init_15 rfl ac_int (fun _ => rfl) (fun _ _ h => h) (fun _ => rfl) (by decide) (by decide) (by decide) (by decide) (by decide) rfl (fun r1 => ?_)
  refine bo_putF (ci := 0) (kf := 1) (N := 17) (Cn' := RX0) (T := TX0) (ty0 := tyX0) (ty := .array .int) (q := 20) dX0_init_17 rfl tyX0_ok nmX0 fl_X0_15 rfl rfl (by decide +kernel) rfl rfl (Nat.le_of_ble_eq_true rfl) rfl ?_
  refine bo_aload0 (q := 21) dX0_init_20 rfl ?_
  refine bo_bipush (v := nI 12) (q := 23) dX0_init_21 (by decide) rfl ?_
  refine bo_newa (atype := .int) (ty := .int) (j := 0) (N' := 12) (a0 := (12, .inl (fun _ => 0))) (q := 25) dX0_init_23 rfl ac_int (fun _ => rfl) (fun _ _ h => h) (fun _ => rfl) (by decide) (by decide) (by decide) (by decide) (by decide) rfl (fun r2 => ?_)
  refine bo_putF (ci := 0) (kf := 2) (N := 17) (Cn' := RX0) (T := TX0) (ty0 := tyX0) (ty := .array .int) (q := 28) dX0_init_25 rfl tyX0_ok nmX0 fl_X0_18 rfl rfl (by decide +kernel) rfl rfl (Nat.le_of_ble_eq_true rfl) rfl ?_
  refine bo_aload0 (q := 29) dX0_init_28 rfl ?_
  refine bo_bipush (v := nI 12) (q := 31) dX0_init_29 (by decide) rfl ?_
  refine bo_newa (atype := .int) (ty := .int) (j := 0) (N' := 12) (a0 := (12, .inl (fun _ => 0))) (q := 33) dX0_init_31 rfl ac_int (fun _ => rfl) (fun _ _ h => h) (fun _ => rfl) (by decide) (by decide) (by decide) (by decide) (by decide) rfl (fun r3 => ?_)
  refine bo_putF (ci := 0) (kf := 3) (N := 17) (Cn' := RX0) (T := TX0) (ty0 := tyX0) (ty := .array .int) (q := 36) dX0_init_33 rfl tyX0_ok nmX0 fl_X0_21 rfl rfl (by decide +kernel) rfl rfl (Nat.le_of_ble_eq_true rfl) rfl ?_
  refine bo_aload0 (q := 37) dX0_init_36 rfl ?_
  refine bo_iconst (v := nI 4) (q := 38) dX0_init_37 (by decide) rfl ?_
  refine bo_newa (atype := .int) (ty := .int) (j := 0) (N' := 4) (a0 := (4, .inl (fun _ => 0))) (q := 40) dX0_init_38 rfl ac_int (fun _ => rfl) (fun _ _ h => h) (fun _ => rfl) (by decide) (by decide) (by decide) (by decide) (by decide) rfl (fun r4 => ?_)
  refine bo_putF (ci := 0) (kf := 4) (N := 17) (Cn' := RX0) (T := TX0) (ty0 := tyX0) (ty := .array .int) (q := 43) dX0_init_40 rfl tyX0_ok nmX0 fl_X0_24 rfl rfl (by decide +kernel) rfl rfl (Nat.le_of_ble_eq_true rfl) rfl ?_
  refine bo_aload0 (q := 44) dX0_init_43 rfl ?_
  refine bo_bipush (v := nI 12) (q := 46) dX0_init_44 (by decide) rfl ?_
  refine bo_newa (atype := .int) (ty := .int) (j := 0) (N' := 12) (a0 := (12, .inl (fun _ => 0))) (q := 48) dX0_init_46 rfl ac_int (fun _ => rfl) (fun _ _ h => h) (fun _ => rfl) (by decide) (by decide) (by decide) (by decide) (by decide) rfl (fun r5 => ?_)
  refine bo_putF (ci := 0) (kf := 5) (N := 17) (Cn' := RX0) (T := TX0) (ty0 := tyX0) (ty := .array .int) (q := 51) dX0_init_48 rfl tyX0_ok nmX0 fl_X0_27 rfl rfl (by decide +kernel) rfl rfl (Nat.le_of_ble_eq_true rfl) rfl ?_
  refine bo_aload0 (q := 52) dX0_init_51 rfl ?_
  refine bo_bipush (v := nI 8) (q := 54) dX0_init_52 (by decide) rfl ?_
  refine bo_newa (atype := .int) (ty := .int) (j := 0) (N' := 8) (a0 := (8, .inl (fun _ => 0))) (q := 56) dX0_init_54 rfl ac_int (fun _ => rfl) (fun _ _ h => h) (fun _ => rfl) (by decide) (by decide) (by decide) (by decide) (by decide) rfl (fun r6 => ?_)
  refine bo_putF (ci := 0) (kf := 6) (N := 17) (Cn' := RX0) (T := TX0) (ty0 := tyX0) (ty := .array .int) (q := 59) dX0_init_56 rfl tyX0_ok nmX0 fl_X0_30 rfl rfl (by decide +kernel) rfl rfl (Nat.le_of_ble_eq_true rfl) rfl ?_
  refine bo_aload0 (q := 60) dX0_init_59 rfl ?_
  refine bo_bipush (v := nI 8) (q := 62) dX0_init_60 (by decide) rfl ?_
  refine bo_newa (atype := .int) (ty := .int) (j := 0) (N' := 8) (a0 := (8, .inl (fun _ => 0))) (q := 64) dX0_init_62 rfl ac_int (fun _ => rfl) (fun _ _ h => h) (fun _ => rfl) (by decide) (by decide) (by decide) (by decide) (by decide) rfl (fun r7 => ?_)
  refine bo_putF (ci := 0) (kf := 7) (N := 17) (Cn' := RX0) (T := TX0) (ty0 := tyX0) (ty := .array .int) (q := 67) dX0_init_64 rfl tyX0_ok nmX0 fl_X0_33 rfl rfl (by decide +kernel) rfl rfl (Nat.le_of_ble_eq_true rfl) rfl ?_
  refine bo_aload0 (q := 68) dX0_init_67 rfl ?_
  refine bo_bipush (v := nI 8) (q := 70) dX0_init_68 (by decide) rfl ?_
  refine bo_newa (atype := .int) (ty := .int) (j := 0) (N' := 8) (a0 := (8, .inl (fun _ => 0))) (q := 72) dX0_init_70 rfl ac_int (fun _ => rfl) (fun _ _ h => h) (fun _ => rfl) (by decide) (by decide) (by decide) (by decide) (by decide) rfl (fun r8 => ?_)
  refine bo_putF (ci := 0) (kf := 8) (N := 17) (Cn' := RX0) (T := TX0) (ty0 := tyX0) (ty := .array .int) (q := 75) dX0_init_72 rfl tyX0_ok nmX0 fl_X0_36 rfl rfl (by decide +kernel) rfl rfl (Nat.le_of_ble_eq_true rfl) rfl ?_
  refine bo_aload0 (q := 76) dX0_init_75 rfl ?_
  refine bo_bipush (v := nI 8) (q := 78) dX0_init_76 (by decide) rfl ?_
  refine bo_newa (atype := .int) (ty := .int) (j := 0) (N' := 8) (a0 := (8, .inl (fun _ => 0))) (q := 80) dX0_init_78 rfl ac_int (fun _ => rfl) (fun _ _ h => h) (fun _ => rfl) (by decide) (by decide) (by decide) (by decide) (by decide) rfl (fun r9 => ?_)
  refine bo_putF (ci := 0) (kf := 9) (N := 17) (Cn' := RX0) (T := TX0) (ty0 := tyX0) (ty := .array .int) (q := 83) dX0_init_80 rfl tyX0_ok nmX0 fl_X0_39 rfl rfl (by decide +kernel) rfl rfl (Nat.le_of_ble_eq_true rfl) rfl ?_
  refine bo_aload0 (q := 84) dX0_init_83 rfl ?_
  refine bo_bipush (v := nI 8) (q := 86) dX0_init_84 (by decide) rfl ?_
  refine bo_newa (atype := .int) (ty := .int) (j := 0) (N' := 8) (a0 := (8, .inl (fun _ => 0))) (q := 88) dX0_init_86 rfl ac_int (fun _ => rfl) (fun _ _ h => h) (fun _ => rfl) (by decide) (by decide) (by decide) (by decide) (by decide) rfl (fun r10 => ?_)
  refine bo_putF (ci := 0) (kf := 10) (N := 17) (Cn' := RX0) (T := TX0) (ty0 := tyX0) (ty := .array .int) (q := 91) dX0_init_88 rfl tyX0_ok nmX0 fl_X0_42 rfl rfl (by decide +kernel) rfl rfl (Nat.le_of_ble_eq_true rfl) rfl ?_
  refine bo_aload0 (q := 92) dX0_init_91 rfl ?_
  refine bo_bipush (v := nI 12) (q := 94) dX0_init_92 (by decide) rfl ?_
  refine bo_newa (atype := .int) (ty := .int) (j := 0) (N' := 12) (a0 := (12, .inl (fun _ => 0))) (q := 96) dX0_init_94 rfl ac_int (fun _ => rfl) (fun _ _ h => h) (fun _ => rfl) (by decide) (by decide) (by decide) (by decide) (by decide) rfl (fun r11 => ?_)
  refine bo_putF (ci := 0) (kf := 11) (N := 17) (Cn' := RX0) (T := TX0) (ty0 := tyX0) (ty := .array .int) (q := 99) dX0_init_96 rfl tyX0_ok nmX0 fl_X0_45 rfl rfl (by decide +kernel) rfl rfl (Nat.le_of_ble_eq_true rfl) rfl ?_
  refine bo_aload0 (q := 100) dX0_init_99 rfl ?_
  refine bo_bipush (v := nI 12) (q := 102) dX0_init_100 (by decide) rfl ?_
  refine bo_newa (atype := .int) (ty := .int) (j := 0) (N' := 12) (a0 := (12, .inl (fun _ => 0))) (q := 104) dX0_init_102 rfl ac_int (fun _ => rfl) (fun _ _ h => h) (fun _ => rfl) (by decide) (by decide) (by decide) (by decide) (by decide) rfl (fun r12 => ?_)
  refine bo_putF (ci := 0) (kf := 12) (N := 17) (Cn' := RX0) (T := TX0) (ty0 := tyX0) (ty := .array .int) (q := 107) dX0_init_104 rfl tyX0_ok nmX0 fl_X0_48 rfl rfl (by decide +kernel) rfl rfl (Nat.le_of_ble_eq_true rfl) rfl ?_
  refine bo_iconst (v := nI 0) (q := 108) dX0_init_107 (by decide) rfl ?_
  refine bo_istore1 (q := 109) dX0_init_108 rfl (by decide) rfl ?_
  refine bo_iload1 (q := 110) dX0_init_109 rfl ?_
  refine bo_iconst (v := nI 4) (q := 111) dX0_init_110 (by decide) rfl ?_
  refine bo_geF (q := 114) (tgt := 127) dX0_init_111 (by decide) (by decide) rfl ?_
  refine bo_aload0 (q := 115) dX0_init_114 rfl ?_
  refine bo_get (ci := 0) (kf := 4) (N := 17) (Cn' := RX0) (T := TX0) (v := .ref (r4)) (q := 118) dX0_init_115 rfl fl_X0_24 rfl rfl ?_
  refine bo_iload1 (q := 119) dX0_init_118 rfl ?_
  refine bo_iconst (v := nI 5) (q := 120) dX0_init_119 (by decide) rfl ?_
  refine bo_iast 5 (i := 0) (g := fil 0 (nI 5) 1 (fun _ => 0)) (q := 121) (ws' := [(h0, .inr (0, [.ref (r0), .ref (r1), .ref (r2), .ref (r3), .ref (r4), .ref (r5), .ref (r6), .ref (r7), .ref (r8), .ref (r9), .ref (r10), .ref (r11), .ref (r12), .int 0, .int 0, .int 0, .int 0])), (r0, .inl (cA 0, 12, .inl (fun _ => 0))), (r1, .inl (cA 0, 12, .inl (fun _ => 0))), (r2, .inl (cA 0, 12, .inl (fun _ => 0))), (r3, .inl (cA 0, 12, .inl (fun _ => 0))), (r4, .inl (cA 0, 4, .inl (fil 0 (nI 5) 1 (fun _ => 0)))), (r5, .inl (cA 0, 12, .inl (fun _ => 0))), (r6, .inl (cA 0, 8, .inl (fun _ => 0))), (r7, .inl (cA 0, 8, .inl (fun _ => 0))), (r8, .inl (cA 0, 8, .inl (fun _ => 0))), (r9, .inl (cA 0, 8, .inl (fun _ => 0))), (r10, .inl (cA 0, 8, .inl (fun _ => 0))), (r11, .inl (cA 0, 12, .inl (fun _ => 0))), (r12, .inl (cA 0, 12, .inl (fun _ => 0)))]) dX0_init_120 rfl (by decide) (by decide) (fil_1 0 (nI 5) _) rfl rfl ?_
  refine bo_iinc1 (x := 0) (q := 124) dX0_init_121 rfl (by decide) rfl ?_
  refine bo_goto (tgt := 109) dX0_init_124 (by decide) ?_
  refine bo_iload1 (q := 110) dX0_init_109 rfl ?_
  refine bo_iconst (v := nI 4) (q := 111) dX0_init_110 (by decide) rfl ?_
  refine bo_geF (q := 114) (tgt := 127) dX0_init_111 (by decide) (by decide) rfl ?_
  refine bo_aload0 (q := 115) dX0_init_114 rfl ?_
  refine bo_get (ci := 0) (kf := 4) (N := 17) (Cn' := RX0) (T := TX0) (v := .ref (r4)) (q := 118) dX0_init_115 rfl fl_X0_24 rfl rfl ?_
  refine bo_iload1 (q := 119) dX0_init_118 rfl ?_
  refine bo_iconst (v := nI 5) (q := 120) dX0_init_119 (by decide) rfl ?_
  refine bo_iast 5 (i := 1) (g := fil 0 (nI 5) 2 (fun _ => 0)) (q := 121) (ws' := [(h0, .inr (0, [.ref (r0), .ref (r1), .ref (r2), .ref (r3), .ref (r4), .ref (r5), .ref (r6), .ref (r7), .ref (r8), .ref (r9), .ref (r10), .ref (r11), .ref (r12), .int 0, .int 0, .int 0, .int 0])), (r0, .inl (cA 0, 12, .inl (fun _ => 0))), (r1, .inl (cA 0, 12, .inl (fun _ => 0))), (r2, .inl (cA 0, 12, .inl (fun _ => 0))), (r3, .inl (cA 0, 12, .inl (fun _ => 0))), (r4, .inl (cA 0, 4, .inl (fil 0 (nI 5) 2 (fun _ => 0)))), (r5, .inl (cA 0, 12, .inl (fun _ => 0))), (r6, .inl (cA 0, 8, .inl (fun _ => 0))), (r7, .inl (cA 0, 8, .inl (fun _ => 0))), (r8, .inl (cA 0, 8, .inl (fun _ => 0))), (r9, .inl (cA 0, 8, .inl (fun _ => 0))), (r10, .inl (cA 0, 8, .inl (fun _ => 0))), (r11, .inl (cA 0, 12, .inl (fun _ => 0))), (r12, .inl (cA 0, 12, .inl (fun _ => 0)))]) dX0_init_120 rfl (by decide) (by decide) (fil_s 0 (nI 5) 1 _) rfl rfl ?_
  refine bo_iinc1 (x := 1) (q := 124) dX0_init_121 rfl (by decide) rfl ?_
  refine bo_goto (tgt := 109) dX0_init_124 (by decide) ?_
  refine bo_iload1 (q := 110) dX0_init_109 rfl ?_
  refine bo_iconst (v := nI 4) (q := 111) dX0_init_110 (by decide) rfl ?_
  refine bo_geF (q := 114) (tgt := 127) dX0_init_111 (by decide) (by decide) rfl ?_
  refine bo_aload0 (q := 115) dX0_init_114 rfl ?_
  refine bo_get (ci := 0) (kf := 4) (N := 17) (Cn' := RX0) (T := TX0) (v := .ref (r4)) (q := 118) dX0_init_115 rfl fl_X0_24 rfl rfl ?_
  refine bo_iload1 (q := 119) dX0_init_118 rfl ?_
  refine bo_iconst (v := nI 5) (q := 120) dX0_init_119 (by decide) rfl ?_
  refine bo_iast 5 (i := 2) (g := fil 0 (nI 5) 3 (fun _ => 0)) (q := 121) (ws' := [(h0, .inr (0, [.ref (r0), .ref (r1), .ref (r2), .ref (r3), .ref (r4), .ref (r5), .ref (r6), .ref (r7), .ref (r8), .ref (r9), .ref (r10), .ref (r11), .ref (r12), .int 0, .int 0, .int 0, .int 0])), (r0, .inl (cA 0, 12, .inl (fun _ => 0))), (r1, .inl (cA 0, 12, .inl (fun _ => 0))), (r2, .inl (cA 0, 12, .inl (fun _ => 0))), (r3, .inl (cA 0, 12, .inl (fun _ => 0))), (r4, .inl (cA 0, 4, .inl (fil 0 (nI 5) 3 (fun _ => 0)))), (r5, .inl (cA 0, 12, .inl (fun _ => 0))), (r6, .inl (cA 0, 8, .inl (fun _ => 0))), (r7, .inl (cA 0, 8, .inl (fun _ => 0))), (r8, .inl (cA 0, 8, .inl (fun _ => 0))), (r9, .inl (cA 0, 8, .inl (fun _ => 0))), (r10, .inl (cA 0, 8, .inl (fun _ => 0))), (r11, .inl (cA 0, 12, .inl (fun _ => 0))), (r12, .inl (cA 0, 12, .inl (fun _ => 0)))]) dX0_init_120 rfl (by decide) (by decide) (fil_s 0 (nI 5) 2 _) rfl rfl ?_
  refine bo_iinc1 (x := 2) (q := 124) dX0_init_121 rfl (by decide) rfl ?_
  refine bo_goto (tgt := 109) dX0_init_124 (by decide) ?_
  refine bo_iload1 (q := 110) dX0_init_109 rfl ?_
  refine bo_iconst (v := nI 4) (q := 111) dX0_init_110 (by decide) rfl ?_
  refine bo_geF (q := 114) (tgt := 127) dX0_init_111 (by decide) (by decide) rfl ?_
  refine bo_aload0 (q := 115) dX0_init_114 rfl ?_
  refine bo_get (ci := 0) (kf := 4) (N := 17) (Cn' := RX0) (T := TX0) (v := .ref (r4)) (q := 118) dX0_init_115 rfl fl_X0_24 rfl rfl ?_
  refine bo_iload1 (q := 119) dX0_init_118 rfl ?_
  refine bo_iconst (v := nI 5) (q := 120) dX0_init_119 (by decide) rfl ?_
  refine bo_iast 5 (i := 3) (g := fil 0 (nI 5) 4 (fun _ => 0)) (q := 121) (ws' := [(h0, .inr (0, [.ref (r0), .ref (r1), .ref (r2), .ref (r3), .ref (r4), .ref (r5), .ref (r6), .ref (r7), .ref (r8), .ref (r9), .ref (r10), .ref (r11), .ref (r12), .int 0, .int 0, .int 0, .int 0])), (r0, .inl (cA 0, 12, .inl (fun _ => 0))), (r1, .inl (cA 0, 12, .inl (fun _ => 0))), (r2, .inl (cA 0, 12, .inl (fun _ => 0))), (r3, .inl (cA 0, 12, .inl (fun _ => 0))), (r4, .inl (cA 0, 4, .inl (fil 0 (nI 5) 4 (fun _ => 0)))), (r5, .inl (cA 0, 12, .inl (fun _ => 0))), (r6, .inl (cA 0, 8, .inl (fun _ => 0))), (r7, .inl (cA 0, 8, .inl (fun _ => 0))), (r8, .inl (cA 0, 8, .inl (fun _ => 0))), (r9, .inl (cA 0, 8, .inl (fun _ => 0))), (r10, .inl (cA 0, 8, .inl (fun _ => 0))), (r11, .inl (cA 0, 12, .inl (fun _ => 0))), (r12, .inl (cA 0, 12, .inl (fun _ => 0)))]) dX0_init_120 rfl (by decide) (by decide) (fil_s 0 (nI 5) 3 _) rfl rfl ?_
  refine bo_iinc1 (x := 3) (q := 124) dX0_init_121 rfl (by decide) rfl ?_
  refine bo_goto (tgt := 109) dX0_init_124 (by decide) ?_
  refine bo_iload1 (q := 110) dX0_init_109 rfl ?_
  refine bo_iconst (v := nI 4) (q := 111) dX0_init_110 (by decide) rfl ?_
  refine bo_geT (tgt := 127) dX0_init_111 (by decide) (by decide) ?_
  refine bo_iconst (v := nI 0) (q := 128) dX0_init_127 (by decide) rfl ?_
  refine bo_istore1 (q := 129) dX0_init_128 rfl (by decide) rfl ?_
  refine bo_iload1 (q := 130) dX0_init_129 rfl ?_
  refine bo_bipush (v := nI 12) (q := 132) dX0_init_130 (by decide) rfl ?_
  refine bo_geF (q := 135) (tgt := 149) dX0_init_132 (by decide) (by decide) rfl ?_
  refine bo_aload0 (q := 136) dX0_init_135 rfl ?_
  refine bo_get (ci := 0) (kf := 5) (N := 17) (Cn' := RX0) (T := TX0) (v := .ref (r5)) (q := 139) dX0_init_136 rfl fl_X0_27 rfl rfl ?_
  refine bo_iload1 (q := 140) dX0_init_139 rfl ?_
  refine bo_bipush (v := nI 10) (q := 142) dX0_init_140 (by decide) rfl ?_
  refine bo_iast 6 (i := 0) (g := fil 0 (nI 10) 1 (fun _ => 0)) (q := 143) (ws' := [(h0, .inr (0, [.ref (r0), .ref (r1), .ref (r2), .ref (r3), .ref (r4), .ref (r5), .ref (r6), .ref (r7), .ref (r8), .ref (r9), .ref (r10), .ref (r11), .ref (r12), .int 0, .int 0, .int 0, .int 0])), (r0, .inl (cA 0, 12, .inl (fun _ => 0))), (r1, .inl (cA 0, 12, .inl (fun _ => 0))), (r2, .inl (cA 0, 12, .inl (fun _ => 0))), (r3, .inl (cA 0, 12, .inl (fun _ => 0))), (r4, .inl (cA 0, 4, .inl (fil 0 (nI 5) 4 (fun _ => 0)))), (r5, .inl (cA 0, 12, .inl (fil 0 (nI 10) 1 (fun _ => 0)))), (r6, .inl (cA 0, 8, .inl (fun _ => 0))), (r7, .inl (cA 0, 8, .inl (fun _ => 0))), (r8, .inl (cA 0, 8, .inl (fun _ => 0))), (r9, .inl (cA 0, 8, .inl (fun _ => 0))), (r10, .inl (cA 0, 8, .inl (fun _ => 0))), (r11, .inl (cA 0, 12, .inl (fun _ => 0))), (r12, .inl (cA 0, 12, .inl (fun _ => 0)))]) dX0_init_142 rfl (by decide) (by decide) (fil_1 0 (nI 10) _) rfl rfl ?_
  refine bo_iinc1 (x := 0) (q := 146) dX0_init_143 rfl (by decide) rfl ?_
  refine bo_goto (tgt := 129) dX0_init_146 (by decide) ?_
  refine bo_iload1 (q := 130) dX0_init_129 rfl ?_
  refine bo_bipush (v := nI 12) (q := 132) dX0_init_130 (by decide) rfl ?_
  refine bo_geF (q := 135) (tgt := 149) dX0_init_132 (by decide) (by decide) rfl ?_
  refine bo_aload0 (q := 136) dX0_init_135 rfl ?_
  refine bo_get (ci := 0) (kf := 5) (N := 17) (Cn' := RX0) (T := TX0) (v := .ref (r5)) (q := 139) dX0_init_136 rfl fl_X0_27 rfl rfl ?_
  refine bo_iload1 (q := 140) dX0_init_139 rfl ?_
  refine bo_bipush (v := nI 10) (q := 142) dX0_init_140 (by decide) rfl ?_
  refine bo_iast 6 (i := 1) (g := fil 0 (nI 10) 2 (fun _ => 0)) (q := 143) (ws' := [(h0, .inr (0, [.ref (r0), .ref (r1), .ref (r2), .ref (r3), .ref (r4), .ref (r5), .ref (r6), .ref (r7), .ref (r8), .ref (r9), .ref (r10), .ref (r11), .ref (r12), .int 0, .int 0, .int 0, .int 0])), (r0, .inl (cA 0, 12, .inl (fun _ => 0))), (r1, .inl (cA 0, 12, .inl (fun _ => 0))), (r2, .inl (cA 0, 12, .inl (fun _ => 0))), (r3, .inl (cA 0, 12, .inl (fun _ => 0))), (r4, .inl (cA 0, 4, .inl (fil 0 (nI 5) 4 (fun _ => 0)))), (r5, .inl (cA 0, 12, .inl (fil 0 (nI 10) 2 (fun _ => 0)))), (r6, .inl (cA 0, 8, .inl (fun _ => 0))), (r7, .inl (cA 0, 8, .inl (fun _ => 0))), (r8, .inl (cA 0, 8, .inl (fun _ => 0))), (r9, .inl (cA 0, 8, .inl (fun _ => 0))), (r10, .inl (cA 0, 8, .inl (fun _ => 0))), (r11, .inl (cA 0, 12, .inl (fun _ => 0))), (r12, .inl (cA 0, 12, .inl (fun _ => 0)))]) dX0_init_142 rfl (by decide) (by decide) (fil_s 0 (nI 10) 1 _) rfl rfl ?_
  refine bo_iinc1 (x := 1) (q := 146) dX0_init_143 rfl (by decide) rfl ?_
  refine bo_goto (tgt := 129) dX0_init_146 (by decide) ?_
  refine bo_iload1 (q := 130) dX0_init_129 rfl ?_
  refine bo_bipush (v := nI 12) (q := 132) dX0_init_130 (by decide) rfl ?_
  refine bo_geF (q := 135) (tgt := 149) dX0_init_132 (by decide) (by decide) rfl ?_
  refine bo_aload0 (q := 136) dX0_init_135 rfl ?_
  refine bo_get (ci := 0) (kf := 5) (N := 17) (Cn' := RX0) (T := TX0) (v := .ref (r5)) (q := 139) dX0_init_136 rfl fl_X0_27 rfl rfl ?_
  refine bo_iload1 (q := 140) dX0_init_139 rfl ?_
  refine bo_bipush (v := nI 10) (q := 142) dX0_init_140 (by decide) rfl ?_
  refine bo_iast 6 (i := 2) (g := fil 0 (nI 10) 3 (fun _ => 0)) (q := 143) (ws' := [(h0, .inr (0, [.ref (r0), .ref (r1), .ref (r2), .ref (r3), .ref (r4), .ref (r5), .ref (r6), .ref (r7), .ref (r8), .ref (r9), .ref (r10), .ref (r11), .ref (r12), .int 0, .int 0, .int 0, .int 0])), (r0, .inl (cA 0, 12, .inl (fun _ => 0))), (r1, .inl (cA 0, 12, .inl (fun _ => 0))), (r2, .inl (cA 0, 12, .inl (fun _ => 0))), (r3, .inl (cA 0, 12, .inl (fun _ => 0))), (r4, .inl (cA 0, 4, .inl (fil 0 (nI 5) 4 (fun _ => 0)))), (r5, .inl (cA 0, 12, .inl (fil 0 (nI 10) 3 (fun _ => 0)))), (r6, .inl (cA 0, 8, .inl (fun _ => 0))), (r7, .inl (cA 0, 8, .inl (fun _ => 0))), (r8, .inl (cA 0, 8, .inl (fun _ => 0))), (r9, .inl (cA 0, 8, .inl (fun _ => 0))), (r10, .inl (cA 0, 8, .inl (fun _ => 0))), (r11, .inl (cA 0, 12, .inl (fun _ => 0))), (r12, .inl (cA 0, 12, .inl (fun _ => 0)))]) dX0_init_142 rfl (by decide) (by decide) (fil_s 0 (nI 10) 2 _) rfl rfl ?_
  refine bo_iinc1 (x := 2) (q := 146) dX0_init_143 rfl (by decide) rfl ?_
  refine bo_goto (tgt := 129) dX0_init_146 (by decide) ?_
  refine bo_iload1 (q := 130) dX0_init_129 rfl ?_
  refine bo_bipush (v := nI 12) (q := 132) dX0_init_130 (by decide) rfl ?_
  refine bo_geF (q := 135) (tgt := 149) dX0_init_132 (by decide) (by decide) rfl ?_
  refine bo_aload0 (q := 136) dX0_init_135 rfl ?_
  refine bo_get (ci := 0) (kf := 5) (N := 17) (Cn' := RX0) (T := TX0) (v := .ref (r5)) (q := 139) dX0_init_136 rfl fl_X0_27 rfl rfl ?_
  refine bo_iload1 (q := 140) dX0_init_139 rfl ?_
  refine bo_bipush (v := nI 10) (q := 142) dX0_init_140 (by decide) rfl ?_
  refine bo_iast 6 (i := 3) (g := fil 0 (nI 10) 4 (fun _ => 0)) (q := 143) (ws' := [(h0, .inr (0, [.ref (r0), .ref (r1), .ref (r2), .ref (r3), .ref (r4), .ref (r5), .ref (r6), .ref (r7), .ref (r8), .ref (r9), .ref (r10), .ref (r11), .ref (r12), .int 0, .int 0, .int 0, .int 0])), (r0, .inl (cA 0, 12, .inl (fun _ => 0))), (r1, .inl (cA 0, 12, .inl (fun _ => 0))), (r2, .inl (cA 0, 12, .inl (fun _ => 0))), (r3, .inl (cA 0, 12, .inl (fun _ => 0))), (r4, .inl (cA 0, 4, .inl (fil 0 (nI 5) 4 (fun _ => 0)))), (r5, .inl (cA 0, 12, .inl (fil 0 (nI 10) 4 (fun _ => 0)))), (r6, .inl (cA 0, 8, .inl (fun _ => 0))), (r7, .inl (cA 0, 8, .inl (fun _ => 0))), (r8, .inl (cA 0, 8, .inl (fun _ => 0))), (r9, .inl (cA 0, 8, .inl (fun _ => 0))), (r10, .inl (cA 0, 8, .inl (fun _ => 0))), (r11, .inl (cA 0, 12, .inl (fun _ => 0))), (r12, .inl (cA 0, 12, .inl (fun _ => 0)))]) dX0_init_142 rfl (by decide) (by decide) (fil_s 0 (nI 10) 3 _) rfl rfl ?_
  refine bo_iinc1 (x := 3) (q := 146) dX0_init_143 rfl (by decide) rfl ?_
  refine bo_goto (tgt := 129) dX0_init_146 (by decide) ?_
  refine bo_iload1 (q := 130) dX0_init_129 rfl ?_
  refine bo_bipush (v := nI 12) (q := 132) dX0_init_130 (by decide) rfl ?_
  refine bo_geF (q := 135) (tgt := 149) dX0_init_132 (by decide) (by decide) rfl ?_
  refine bo_aload0 (q := 136) dX0_init_135 rfl ?_
  refine bo_get (ci := 0) (kf := 5) (N := 17) (Cn' := RX0) (T := TX0) (v := .ref (r5)) (q := 139) dX0_init_136 rfl fl_X0_27 rfl rfl ?_
  refine bo_iload1 (q := 140) dX0_init_139 rfl ?_
  refine bo_bipush (v := nI 10) (q := 142) dX0_init_140 (by decide) rfl ?_
  refine bo_iast 6 (i := 4) (g := fil 0 (nI 10) 5 (fun _ => 0)) (q := 143) (ws' := [(h0, .inr (0, [.ref (r0), .ref (r1), .ref (r2), .ref (r3), .ref (r4), .ref (r5), .ref (r6), .ref (r7), .ref (r8), .ref (r9), .ref (r10), .ref (r11), .ref (r12), .int 0, .int 0, .int 0, .int 0])), (r0, .inl (cA 0, 12, .inl (fun _ => 0))), (r1, .inl (cA 0, 12, .inl (fun _ => 0))), (r2, .inl (cA 0, 12, .inl (fun _ => 0))), (r3, .inl (cA 0, 12, .inl (fun _ => 0))), (r4, .inl (cA 0, 4, .inl (fil 0 (nI 5) 4 (fun _ => 0)))), (r5, .inl (cA 0, 12, .inl (fil 0 (nI 10) 5 (fun _ => 0)))), (r6, .inl (cA 0, 8, .inl (fun _ => 0))), (r7, .inl (cA 0, 8, .inl (fun _ => 0))), (r8, .inl (cA 0, 8, .inl (fun _ => 0))), (r9, .inl (cA 0, 8, .inl (fun _ => 0))), (r10, .inl (cA 0, 8, .inl (fun _ => 0))), (r11, .inl (cA 0, 12, .inl (fun _ => 0))), (r12, .inl (cA 0, 12, .inl (fun _ => 0)))]) dX0_init_142 rfl (by decide) (by decide) (fil_s 0 (nI 10) 4 _) rfl rfl ?_
  refine bo_iinc1 (x := 4) (q := 146) dX0_init_143 rfl (by decide) rfl ?_
  refine bo_goto (tgt := 129) dX0_init_146 (by decide) ?_
  refine bo_iload1 (q := 130) dX0_init_129 rfl ?_
  refine bo_bipush (v := nI 12) (q := 132) dX0_init_130 (by decide) rfl ?_
  refine bo_geF (q := 135) (tgt := 149) dX0_init_132 (by decide) (by decide) rfl ?_
  refine bo_aload0 (q := 136) dX0_init_135 rfl ?_
  refine bo_get (ci := 0) (kf := 5) (N := 17) (Cn' := RX0) (T := TX0) (v := .ref (r5)) (q := 139) dX0_init_136 rfl fl_X0_27 rfl rfl ?_
  refine bo_iload1 (q := 140) dX0_init_139 rfl ?_
  refine bo_bipush (v := nI 10) (q := 142) dX0_init_140 (by decide) rfl ?_
  refine bo_iast 6 (i := 5) (g := fil 0 (nI 10) 6 (fun _ => 0)) (q := 143) (ws' := [(h0, .inr (0, [.ref (r0), .ref (r1), .ref (r2), .ref (r3), .ref (r4), .ref (r5), .ref (r6), .ref (r7), .ref (r8), .ref (r9), .ref (r10), .ref (r11), .ref (r12), .int 0, .int 0, .int 0, .int 0])), (r0, .inl (cA 0, 12, .inl (fun _ => 0))), (r1, .inl (cA 0, 12, .inl (fun _ => 0))), (r2, .inl (cA 0, 12, .inl (fun _ => 0))), (r3, .inl (cA 0, 12, .inl (fun _ => 0))), (r4, .inl (cA 0, 4, .inl (fil 0 (nI 5) 4 (fun _ => 0)))), (r5, .inl (cA 0, 12, .inl (fil 0 (nI 10) 6 (fun _ => 0)))), (r6, .inl (cA 0, 8, .inl (fun _ => 0))), (r7, .inl (cA 0, 8, .inl (fun _ => 0))), (r8, .inl (cA 0, 8, .inl (fun _ => 0))), (r9, .inl (cA 0, 8, .inl (fun _ => 0))), (r10, .inl (cA 0, 8, .inl (fun _ => 0))), (r11, .inl (cA 0, 12, .inl (fun _ => 0))), (r12, .inl (cA 0, 12, .inl (fun _ => 0)))]) dX0_init_142 rfl (by decide) (by decide) (fil_s 0 (nI 10) 5 _) rfl rfl ?_
  refine bo_iinc1 (x := 5) (q := 146) dX0_init_143 rfl (by decide) rfl ?_
  refine bo_goto (tgt := 129) dX0_init_146 (by decide) ?_
  refine bo_iload1 (q := 130) dX0_init_129 rfl ?_
  refine bo_bipush (v := nI 12) (q := 132) dX0_init_130 (by decide) rfl ?_
  refine bo_geF (q := 135) (tgt := 149) dX0_init_132 (by decide) (by decide) rfl ?_
  refine bo_aload0 (q := 136) dX0_init_135 rfl ?_
  refine bo_get (ci := 0) (kf := 5) (N := 17) (Cn' := RX0) (T := TX0) (v := .ref (r5)) (q := 139) dX0_init_136 rfl fl_X0_27 rfl rfl ?_
  refine bo_iload1 (q := 140) dX0_init_139 rfl ?_
  refine bo_bipush (v := nI 10) (q := 142) dX0_init_140 (by decide) rfl ?_
  refine bo_iast 6 (i := 6) (g := fil 0 (nI 10) 7 (fun _ => 0)) (q := 143) (ws' := [(h0, .inr (0, [.ref (r0), .ref (r1), .ref (r2), .ref (r3), .ref (r4), .ref (r5), .ref (r6), .ref (r7), .ref (r8), .ref (r9), .ref (r10), .ref (r11), .ref (r12), .int 0, .int 0, .int 0, .int 0])), (r0, .inl (cA 0, 12, .inl (fun _ => 0))), (r1, .inl (cA 0, 12, .inl (fun _ => 0))), (r2, .inl (cA 0, 12, .inl (fun _ => 0))), (r3, .inl (cA 0, 12, .inl (fun _ => 0))), (r4, .inl (cA 0, 4, .inl (fil 0 (nI 5) 4 (fun _ => 0)))), (r5, .inl (cA 0, 12, .inl (fil 0 (nI 10) 7 (fun _ => 0)))), (r6, .inl (cA 0, 8, .inl (fun _ => 0))), (r7, .inl (cA 0, 8, .inl (fun _ => 0))), (r8, .inl (cA 0, 8, .inl (fun _ => 0))), (r9, .inl (cA 0, 8, .inl (fun _ => 0))), (r10, .inl (cA 0, 8, .inl (fun _ => 0))), (r11, .inl (cA 0, 12, .inl (fun _ => 0))), (r12, .inl (cA 0, 12, .inl (fun _ => 0)))]) dX0_init_142 rfl (by decide) (by decide) (fil_s 0 (nI 10) 6 _) rfl rfl ?_
  refine bo_iinc1 (x := 6) (q := 146) dX0_init_143 rfl (by decide) rfl ?_
  refine bo_goto (tgt := 129) dX0_init_146 (by decide) ?_
  refine bo_iload1 (q := 130) dX0_init_129 rfl ?_
  refine bo_bipush (v := nI 12) (q := 132) dX0_init_130 (by decide) rfl ?_
  refine bo_geF (q := 135) (tgt := 149) dX0_init_132 (by decide) (by decide) rfl ?_
  refine bo_aload0 (q := 136) dX0_init_135 rfl ?_
  refine bo_get (ci := 0) (kf := 5) (N := 17) (Cn' := RX0) (T := TX0) (v := .ref (r5)) (q := 139) dX0_init_136 rfl fl_X0_27 rfl rfl ?_
  refine bo_iload1 (q := 140) dX0_init_139 rfl ?_
  refine bo_bipush (v := nI 10) (q := 142) dX0_init_140 (by decide) rfl ?_
  refine bo_iast 6 (i := 7) (g := fil 0 (nI 10) 8 (fun _ => 0)) (q := 143) (ws' := [(h0, .inr (0, [.ref (r0), .ref (r1), .ref (r2), .ref (r3), .ref (r4), .ref (r5), .ref (r6), .ref (r7), .ref (r8), .ref (r9), .ref (r10), .ref (r11), .ref (r12), .int 0, .int 0, .int 0, .int 0])), (r0, .inl (cA 0, 12, .inl (fun _ => 0))), (r1, .inl (cA 0, 12, .inl (fun _ => 0))), (r2, .inl (cA 0, 12, .inl (fun _ => 0))), (r3, .inl (cA 0, 12, .inl (fun _ => 0))), (r4, .inl (cA 0, 4, .inl (fil 0 (nI 5) 4 (fun _ => 0)))), (r5, .inl (cA 0, 12, .inl (fil 0 (nI 10) 8 (fun _ => 0)))), (r6, .inl (cA 0, 8, .inl (fun _ => 0))), (r7, .inl (cA 0, 8, .inl (fun _ => 0))), (r8, .inl (cA 0, 8, .inl (fun _ => 0))), (r9, .inl (cA 0, 8, .inl (fun _ => 0))), (r10, .inl (cA 0, 8, .inl (fun _ => 0))), (r11, .inl (cA 0, 12, .inl (fun _ => 0))), (r12, .inl (cA 0, 12, .inl (fun _ => 0)))]) dX0_init_142 rfl (by decide) (by decide) (fil_s 0 (nI 10) 7 _) rfl rfl ?_
  refine bo_iinc1 (x := 7) (q := 146) dX0_init_143 rfl (by decide) rfl ?_
  refine bo_goto (tgt := 129) dX0_init_146 (by decide) ?_
  refine bo_iload1 (q := 130) dX0_init_129 rfl ?_
  refine bo_bipush (v := nI 12) (q := 132) dX0_init_130 (by decide) rfl ?_
  refine bo_geF (q := 135) (tgt := 149) dX0_init_132 (by decide) (by decide) rfl ?_
  refine bo_aload0 (q := 136) dX0_init_135 rfl ?_
  refine bo_get (ci := 0) (kf := 5) (N := 17) (Cn' := RX0) (T := TX0) (v := .ref (r5)) (q := 139) dX0_init_136 rfl fl_X0_27 rfl rfl ?_
  refine bo_iload1 (q := 140) dX0_init_139 rfl ?_
  refine bo_bipush (v := nI 10) (q := 142) dX0_init_140 (by decide) rfl ?_
  refine bo_iast 6 (i := 8) (g := fil 0 (nI 10) 9 (fun _ => 0)) (q := 143) (ws' := [(h0, .inr (0, [.ref (r0), .ref (r1), .ref (r2), .ref (r3), .ref (r4), .ref (r5), .ref (r6), .ref (r7), .ref (r8), .ref (r9), .ref (r10), .ref (r11), .ref (r12), .int 0, .int 0, .int 0, .int 0])), (r0, .inl (cA 0, 12, .inl (fun _ => 0))), (r1, .inl (cA 0, 12, .inl (fun _ => 0))), (r2, .inl (cA 0, 12, .inl (fun _ => 0))), (r3, .inl (cA 0, 12, .inl (fun _ => 0))), (r4, .inl (cA 0, 4, .inl (fil 0 (nI 5) 4 (fun _ => 0)))), (r5, .inl (cA 0, 12, .inl (fil 0 (nI 10) 9 (fun _ => 0)))), (r6, .inl (cA 0, 8, .inl (fun _ => 0))), (r7, .inl (cA 0, 8, .inl (fun _ => 0))), (r8, .inl (cA 0, 8, .inl (fun _ => 0))), (r9, .inl (cA 0, 8, .inl (fun _ => 0))), (r10, .inl (cA 0, 8, .inl (fun _ => 0))), (r11, .inl (cA 0, 12, .inl (fun _ => 0))), (r12, .inl (cA 0, 12, .inl (fun _ => 0)))]) dX0_init_142 rfl (by decide) (by decide) (fil_s 0 (nI 10) 8 _) rfl rfl ?_
  refine bo_iinc1 (x := 8) (q := 146) dX0_init_143 rfl (by decide) rfl ?_
  refine bo_goto (tgt := 129) dX0_init_146 (by decide) ?_
  refine bo_iload1 (q := 130) dX0_init_129 rfl ?_
  refine bo_bipush (v := nI 12) (q := 132) dX0_init_130 (by decide) rfl ?_
  refine bo_geF (q := 135) (tgt := 149) dX0_init_132 (by decide) (by decide) rfl ?_
  refine bo_aload0 (q := 136) dX0_init_135 rfl ?_
  refine bo_get (ci := 0) (kf := 5) (N := 17) (Cn' := RX0) (T := TX0) (v := .ref (r5)) (q := 139) dX0_init_136 rfl fl_X0_27 rfl rfl ?_
  refine bo_iload1 (q := 140) dX0_init_139 rfl ?_
  refine bo_bipush (v := nI 10) (q := 142) dX0_init_140 (by decide) rfl ?_
  refine bo_iast 6 (i := 9) (g := fil 0 (nI 10) 10 (fun _ => 0)) (q := 143) (ws' := [(h0, .inr (0, [.ref (r0), .ref (r1), .ref (r2), .ref (r3), .ref (r4), .ref (r5), .ref (r6), .ref (r7), .ref (r8), .ref (r9), .ref (r10), .ref (r11), .ref (r12), .int 0, .int 0, .int 0, .int 0])), (r0, .inl (cA 0, 12, .inl (fun _ => 0))), (r1, .inl (cA 0, 12, .inl (fun _ => 0))), (r2, .inl (cA 0, 12, .inl (fun _ => 0))), (r3, .inl (cA 0, 12, .inl (fun _ => 0))), (r4, .inl (cA 0, 4, .inl (fil 0 (nI 5) 4 (fun _ => 0)))), (r5, .inl (cA 0, 12, .inl (fil 0 (nI 10) 10 (fun _ => 0)))), (r6, .inl (cA 0, 8, .inl (fun _ => 0))), (r7, .inl (cA 0, 8, .inl (fun _ => 0))), (r8, .inl (cA 0, 8, .inl (fun _ => 0))), (r9, .inl (cA 0, 8, .inl (fun _ => 0))), (r10, .inl (cA 0, 8, .inl (fun _ => 0))), (r11, .inl (cA 0, 12, .inl (fun _ => 0))), (r12, .inl (cA 0, 12, .inl (fun _ => 0)))]) dX0_init_142 rfl (by decide) (by decide) (fil_s 0 (nI 10) 9 _) rfl rfl ?_
  refine bo_iinc1 (x := 9) (q := 146) dX0_init_143 rfl (by decide) rfl ?_
  refine bo_goto (tgt := 129) dX0_init_146 (by decide) ?_
  refine bo_iload1 (q := 130) dX0_init_129 rfl ?_
  refine bo_bipush (v := nI 12) (q := 132) dX0_init_130 (by decide) rfl ?_
  refine bo_geF (q := 135) (tgt := 149) dX0_init_132 (by decide) (by decide) rfl ?_
  refine bo_aload0 (q := 136) dX0_init_135 rfl ?_
  refine bo_get (ci := 0) (kf := 5) (N := 17) (Cn' := RX0) (T := TX0) (v := .ref (r5)) (q := 139) dX0_init_136 rfl fl_X0_27 rfl rfl ?_
  refine bo_iload1 (q := 140) dX0_init_139 rfl ?_
  refine bo_bipush (v := nI 10) (q := 142) dX0_init_140 (by decide) rfl ?_
  refine bo_iast 6 (i := 10) (g := fil 0 (nI 10) 11 (fun _ => 0)) (q := 143) (ws' := [(h0, .inr (0, [.ref (r0), .ref (r1), .ref (r2), .ref (r3), .ref (r4), .ref (r5), .ref (r6), .ref (r7), .ref (r8), .ref (r9), .ref (r10), .ref (r11), .ref (r12), .int 0, .int 0, .int 0, .int 0])), (r0, .inl (cA 0, 12, .inl (fun _ => 0))), (r1, .inl (cA 0, 12, .inl (fun _ => 0))), (r2, .inl (cA 0, 12, .inl (fun _ => 0))), (r3, .inl (cA 0, 12, .inl (fun _ => 0))), (r4, .inl (cA 0, 4, .inl (fil 0 (nI 5) 4 (fun _ => 0)))), (r5, .inl (cA 0, 12, .inl (fil 0 (nI 10) 11 (fun _ => 0)))), (r6, .inl (cA 0, 8, .inl (fun _ => 0))), (r7, .inl (cA 0, 8, .inl (fun _ => 0))), (r8, .inl (cA 0, 8, .inl (fun _ => 0))), (r9, .inl (cA 0, 8, .inl (fun _ => 0))), (r10, .inl (cA 0, 8, .inl (fun _ => 0))), (r11, .inl (cA 0, 12, .inl (fun _ => 0))), (r12, .inl (cA 0, 12, .inl (fun _ => 0)))]) dX0_init_142 rfl (by decide) (by decide) (fil_s 0 (nI 10) 10 _) rfl rfl ?_
  refine bo_iinc1 (x := 10) (q := 146) dX0_init_143 rfl (by decide) rfl ?_
  refine bo_goto (tgt := 129) dX0_init_146 (by decide) ?_
  refine bo_iload1 (q := 130) dX0_init_129 rfl ?_
  refine bo_bipush (v := nI 12) (q := 132) dX0_init_130 (by decide) rfl ?_
  refine bo_geF (q := 135) (tgt := 149) dX0_init_132 (by decide) (by decide) rfl ?_
  refine bo_aload0 (q := 136) dX0_init_135 rfl ?_
  refine bo_get (ci := 0) (kf := 5) (N := 17) (Cn' := RX0) (T := TX0) (v := .ref (r5)) (q := 139) dX0_init_136 rfl fl_X0_27 rfl rfl ?_
  refine bo_iload1 (q := 140) dX0_init_139 rfl ?_
  refine bo_bipush (v := nI 10) (q := 142) dX0_init_140 (by decide) rfl ?_
  refine bo_iast 6 (i := 11) (g := fil 0 (nI 10) 12 (fun _ => 0)) (q := 143) (ws' := [(h0, .inr (0, [.ref (r0), .ref (r1), .ref (r2), .ref (r3), .ref (r4), .ref (r5), .ref (r6), .ref (r7), .ref (r8), .ref (r9), .ref (r10), .ref (r11), .ref (r12), .int 0, .int 0, .int 0, .int 0])), (r0, .inl (cA 0, 12, .inl (fun _ => 0))), (r1, .inl (cA 0, 12, .inl (fun _ => 0))), (r2, .inl (cA 0, 12, .inl (fun _ => 0))), (r3, .inl (cA 0, 12, .inl (fun _ => 0))), (r4, .inl (cA 0, 4, .inl (fil 0 (nI 5) 4 (fun _ => 0)))), (r5, .inl (cA 0, 12, .inl (fil 0 (nI 10) 12 (fun _ => 0)))), (r6, .inl (cA 0, 8, .inl (fun _ => 0))), (r7, .inl (cA 0, 8, .inl (fun _ => 0))), (r8, .inl (cA 0, 8, .inl (fun _ => 0))), (r9, .inl (cA 0, 8, .inl (fun _ => 0))), (r10, .inl (cA 0, 8, .inl (fun _ => 0))), (r11, .inl (cA 0, 12, .inl (fun _ => 0))), (r12, .inl (cA 0, 12, .inl (fun _ => 0)))]) dX0_init_142 rfl (by decide) (by decide) (fil_s 0 (nI 10) 11 _) rfl rfl ?_
  refine bo_iinc1 (x := 11) (q := 146) dX0_init_143 rfl (by decide) rfl ?_
  refine bo_goto (tgt := 129) dX0_init_146 (by decide) ?_
  refine bo_iload1 (q := 130) dX0_init_129 rfl ?_
  refine bo_bipush (v := nI 12) (q := 132) dX0_init_130 (by decide) rfl ?_
  refine bo_geT (tgt := 149) dX0_init_132 (by decide) (by decide) ?_
  exact bo_ret dX0_init_149 rfl rfl ⟨(fun i => match i with | 0 => h0 | 1 => r0 | 2 => r1 | 3 => r2 | 4 => r3 | 5 => r4 | 6 => r5 | 7 => r6 | 8 => r7 | 9 => r8 | 10 => r9 | 11 => r10 | 12 => r11 | 13 => r12 | _ => 0), rfl, rfl⟩

def tpW (β : Nat → Nat) (cA : Nat → ClassId) : va_W := [(β 0, .inr (2, [.ref (β 1), .int 0, .int 0, .int 0, .int 0, .int 0])), (β 1, .inl (cA 0, 120, .inl (fun _ => 0)))]
set_option maxHeartbeats 4000000 in
set_option maxRecDepth 100000 in
theorem i_tape : Ci 1 1 120 yX2_init cX2_init 1 2 [.null, .int 0, .int 0, .int 0, .int 0, .int 0] (fun cA h0 w => ∃ β : Nat → Nat, β 0 = h0 ∧ w = tpW β cA) := by
  refine ci_of (own := RX2) (by decide +kernel) rfl rfl (by decide) (fun cA h0 => ?_)
  refine bo_aload0 (q := 1) dX2_init_0 rfl ?_
  refine bo_obj (q := 4) dX2_init_1 mo_X2 im_obj cd_obj (by decide) (by decide) rfl ?_
  refine bo_aload0 (q := 5) dX2_init_4 rfl ?_
  refine bo_bipush (v := nI 120) (q := 7) dX2_init_5 (by decide) rfl ?_
  refine bo_newa (atype := .int) (ty := .int) (j := 0) (N' := 120) (a0 := (120, .inl (fun _ => 0))) (q := 9) dX2_init_7 rfl ac_int (fun _ => rfl) (fun _ _ h => h) (fun _ => rfl) (by decide) (by decide) (by decide) (by decide) (by decide) rfl (fun r0 => ?_)
  refine bo_putF (ci := 2) (kf := 0) (N := 6) (Cn' := RX2) (T := TX2) (ty0 := tyX2) (ty := .array .int) (q := 12) dX2_init_9 rfl tyX2_ok nmX2 fl_X2_9 rfl rfl (by decide +kernel) rfl rfl (Nat.le_of_ble_eq_true rfl) rfl ?_
  exact bo_ret dX2_init_12 rfl rfl ⟨(fun i => match i with | 0 => h0 | 1 => r0 | _ => 0), rfl, rfl⟩

def shW (β : Nat → Nat) (cA : Nat → ClassId) : va_W := [(β 0, .inr (1, [.ref (β 1), .int 0, .int 0])), (β 1, .inl (cA 1, 40, .inr (.inl (fun _ => 0))))]
set_option maxHeartbeats 4000000 in
set_option maxRecDepth 100000 in
theorem i_sheet : Ci 1 1 40 yX1_init cX1_init 1 1 [.null, .int 0, .int 0] (fun cA h0 w => ∃ β : Nat → Nat, β 0 = h0 ∧ w = shW β cA) := by
  refine ci_of (own := RX1) (by decide +kernel) rfl rfl (by decide) (fun cA h0 => ?_)
  refine bo_aload0 (q := 1) dX1_init_0 rfl ?_
  refine bo_obj (q := 4) dX1_init_1 mo_X1 im_obj cd_obj (by decide) (by decide) rfl ?_
  refine bo_aload0 (q := 5) dX1_init_4 rfl ?_
  refine bo_bipush (v := nI 40) (q := 7) dX1_init_5 (by decide) rfl ?_
  refine bo_newa (atype := .long) (ty := .long) (j := 1) (N' := 40) (a0 := (40, .inr (.inl (fun _ => 0)))) (q := 9) dX1_init_7 rfl ac_long (fun _ => rfl) (fun _ _ h => h) (fun _ => rfl) (by decide) (by decide) (by decide) (by decide) (by decide) rfl (fun r0 => ?_)
  refine bo_putF (ci := 1) (kf := 0) (N := 3) (Cn' := RX1) (T := TX1) (ty0 := tyX1) (ty := .array .long) (q := 12) dX1_init_9 rfl tyX1_ok nmX1 fl_X1_9 rfl rfl (by decide +kernel) rfl rfl (Nat.le_of_ble_eq_true rfl) rfl ?_
  exact bo_ret dX1_init_12 rfl rfl ⟨(fun i => match i with | 0 => h0 | 1 => r0 | _ => 0), rfl, rfl⟩
