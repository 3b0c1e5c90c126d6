def xW (β : Nat → Nat) (cA : Nat → ClassId) : va_W := [(β 0, .inr (4, [.ref (β 1), .ref (β 2), .ref (β 3), .int 0, .ref (β 4), .ref (β 5), .int 0, .ref (β 6), .ref (β 7), .ref (β 8), .ref (β 9), .ref (β 10), .int 0, .int 0, .int 0, .int 0])), (β 1, .inl (cA 0, 108, .inl (fil 8 (nI 10) 12 (fil 4 (nI 5) 4 (fun _ => 0))))), (β 2, .inl (cA 0, 108, .inl (fun _ => 0))), (β 3, .inl (cA 0, 108, .inl (fun _ => 0))), (β 4, .inl (cA 0, 8, .inl (fun _ => 0))), (β 5, .inl (cA 0, 120, .inl (fun _ => 0))), (β 6, .inl (cA 0, 4, .inl (fil 0 (-1) 4 (fun _ => 0)))), (β 7, .inl (cA 0, 4, .inl (fun _ => 0))), (β 8, .inl (cA 1, 160, .inr (.inl (fun _ => 0)))), (β 9, .inl (cA 0, 4096, .inl (fun _ => 0))), (β 10, .inl (cA 2, 14, .inl (fun _ => 0)))]
set_option maxHeartbeats 4000000 in
set_option maxRecDepth 100000 in
theorem i_model : Ci 1 10 4730 yX4_init cX4_init 2 4 [.null, .null, .null, .int 0, .null, .null, .int 0, .null, .null, .null, .null, .null, .int 0, .int 0, .int 0, .int 0] (fun cA h0 w => ∃ β : Nat → Nat, β 0 = h0 ∧ w = xW β cA) := by
  refine ci_of (own := RX4) (by decide +kernel) rfl rfl (by decide) (fun cA h0 => ?_)
  refine bo_aload0 (q := 1) dX4_init_0 rfl ?_
  refine bo_obj (q := 4) dX4_init_1 mo_X4 im_obj cd_obj (by decide) (by decide) rfl ?_
  refine bo_aload0 (q := 5) dX4_init_4 rfl ?_
  refine bo_bipush (v := nI 108) (q := 7) dX4_init_5 (by decide) rfl ?_
  refine bo_newa (atype := .int) (ty := .int) (j := 0) (N' := 108) (a0 := (108, .inl (fun _ => 0))) (q := 9) dX4_init_7 rfl ac_int (fun _ => rfl) (fun _ _ h => h) (fun _ => rfl) (by decide) (by decide) (by decide) (by decide) (by decide) rfl (fun r0 => ?_)
  refine bo_putF (ci := 4) (kf := 0) (N := 16) (Cn' := RX4) (T := TX4) (ty0 := tyX4) (ty := .array .int) (q := 12) dX4_init_9 rfl tyX4_ok nmX4 fl_X4_7 rfl rfl (by decide +kernel) rfl rfl (Nat.le_of_ble_eq_true rfl) rfl ?_
  refine bo_aload0 (q := 13) dX4_init_12 rfl ?_
  refine bo_bipush (v := nI 108) (q := 15) dX4_init_13 (by decide) rfl ?_
  refine bo_newa (atype := .int) (ty := .int) (j := 0) (N' := 108) (a0 := (108, .inl (fun _ => 0))) (q := 17) dX4_init_15 rfl ac_int (fun _ => rfl) (fun _ _ h => h) (fun _ => rfl) (by decide) (by decide) (by decide) (by decide) (by decide) rfl (fun r1 => ?_)
  refine bo_putF (ci := 4) (kf := 1) (N := 16) (Cn' := RX4) (T := TX4) (ty0 := tyX4) (ty := .array .int) (q := 20) dX4_init_17 rfl tyX4_ok nmX4 fl_X4_13 rfl rfl (by decide +kernel) rfl rfl (Nat.le_of_ble_eq_true rfl) rfl ?_
  refine bo_aload0 (q := 21) dX4_init_20 rfl ?_
  refine bo_bipush (v := nI 108) (q := 23) dX4_init_21 (by decide) rfl ?_
  refine bo_newa (atype := .int) (ty := .int) (j := 0) (N' := 108) (a0 := (108, .inl (fun _ => 0))) (q := 25) dX4_init_23 rfl ac_int (fun _ => rfl) (fun _ _ h => h) (fun _ => rfl) (by decide) (by decide) (by decide) (by decide) (by decide) rfl (fun r2 => ?_)
  refine bo_putF (ci := 4) (kf := 2) (N := 16) (Cn' := RX4) (T := TX4) (ty0 := tyX4) (ty := .array .int) (q := 28) dX4_init_25 rfl tyX4_ok nmX4 fl_X4_16 rfl rfl (by decide +kernel) rfl rfl (Nat.le_of_ble_eq_true rfl) rfl ?_
  refine bo_aload0 (q := 29) dX4_init_28 rfl ?_
  refine bo_bipush (v := nI 8) (q := 31) dX4_init_29 (by decide) rfl ?_
  refine bo_newa (atype := .int) (ty := .int) (j := 0) (N' := 8) (a0 := (8, .inl (fun _ => 0))) (q := 33) dX4_init_31 rfl ac_int (fun _ => rfl) (fun _ _ h => h) (fun _ => rfl) (by decide) (by decide) (by decide) (by decide) (by decide) rfl (fun r3 => ?_)
  refine bo_putF (ci := 4) (kf := 4) (N := 16) (Cn' := RX4) (T := TX4) (ty0 := tyX4) (ty := .array .int) (q := 36) dX4_init_33 rfl tyX4_ok nmX4 fl_X4_19 rfl rfl (by decide +kernel) rfl rfl (Nat.le_of_ble_eq_true rfl) rfl ?_
  refine bo_aload0 (q := 37) dX4_init_36 rfl ?_
  refine bo_bipush (v := nI 120) (q := 39) dX4_init_37 (by decide) rfl ?_
  refine bo_newa (atype := .int) (ty := .int) (j := 0) (N' := 120) (a0 := (120, .inl (fun _ => 0))) (q := 41) dX4_init_39 rfl ac_int (fun _ => rfl) (fun _ _ h => h) (fun _ => rfl) (by decide) (by decide) (by decide) (by decide) (by decide) rfl (fun r4 => ?_)
  refine bo_putF (ci := 4) (kf := 5) (N := 16) (Cn' := RX4) (T := TX4) (ty0 := tyX4) (ty := .array .int) (q := 44) dX4_init_41 rfl tyX4_ok nmX4 fl_X4_22 rfl rfl (by decide +kernel) rfl rfl (Nat.le_of_ble_eq_true rfl) rfl ?_
  refine bo_aload0 (q := 45) dX4_init_44 rfl ?_
  refine bo_iconst (v := nI 4) (q := 46) dX4_init_45 (by decide) rfl ?_
  refine bo_newa (atype := .int) (ty := .int) (j := 0) (N' := 4) (a0 := (4, .inl (fun _ => 0))) (q := 48) dX4_init_46 rfl ac_int (fun _ => rfl) (fun _ _ h => h) (fun _ => rfl) (by decide) (by decide) (by decide) (by decide) (by decide) rfl (fun r5 => ?_)
  refine bo_dup (q := 49) dX4_init_48 rfl rfl ?_
  refine bo_iconst (v := nI 0) (q := 50) dX4_init_49 (by decide) rfl ?_
  refine bo_iconst (v := (-1)) (q := 51) dX4_init_50 (by decide) rfl ?_
  refine bo_iast 6 (i := 0) (g := fil 0 (-1) 1 (fun _ => 0)) (q := 52) (ws' := [(h0, .inr (4, [.ref (r0), .ref (r1), .ref (r2), .int 0, .ref (r3), .ref (r4), .int 0, .null, .null, .null, .null, .null, .int 0, .int 0, .int 0, .int 0])), (r0, .inl (cA 0, 108, .inl (fun _ => 0))), (r1, .inl (cA 0, 108, .inl (fun _ => 0))), (r2, .inl (cA 0, 108, .inl (fun _ => 0))), (r3, .inl (cA 0, 8, .inl (fun _ => 0))), (r4, .inl (cA 0, 120, .inl (fun _ => 0))), (r5, .inl (cA 0, 4, .inl (fil 0 (-1) 1 (fun _ => 0))))]) dX4_init_51 rfl (by decide) (by decide) (fil_1 0 (-1) _) rfl rfl ?_
  refine bo_dup (q := 53) dX4_init_52 rfl rfl ?_
  refine bo_iconst (v := nI 1) (q := 54) dX4_init_53 (by decide) rfl ?_
  refine bo_iconst (v := (-1)) (q := 55) dX4_init_54 (by decide) rfl ?_
  refine bo_iast 6 (i := 1) (g := fil 0 (-1) 2 (fun _ => 0)) (q := 56) (ws' := [(h0, .inr (4, [.ref (r0), .ref (r1), .ref (r2), .int 0, .ref (r3), .ref (r4), .int 0, .null, .null, .null, .null, .null, .int 0, .int 0, .int 0, .int 0])), (r0, .inl (cA 0, 108, .inl (fun _ => 0))), (r1, .inl (cA 0, 108, .inl (fun _ => 0))), (r2, .inl (cA 0, 108, .inl (fun _ => 0))), (r3, .inl (cA 0, 8, .inl (fun _ => 0))), (r4, .inl (cA 0, 120, .inl (fun _ => 0))), (r5, .inl (cA 0, 4, .inl (fil 0 (-1) 2 (fun _ => 0))))]) dX4_init_55 rfl (by decide) (by decide) (fil_s 0 (-1) 1 _) rfl rfl ?_
  refine bo_dup (q := 57) dX4_init_56 rfl rfl ?_
  refine bo_iconst (v := nI 2) (q := 58) dX4_init_57 (by decide) rfl ?_
  refine bo_iconst (v := (-1)) (q := 59) dX4_init_58 (by decide) rfl ?_
  refine bo_iast 6 (i := 2) (g := fil 0 (-1) 3 (fun _ => 0)) (q := 60) (ws' := [(h0, .inr (4, [.ref (r0), .ref (r1), .ref (r2), .int 0, .ref (r3), .ref (r4), .int 0, .null, .null, .null, .null, .null, .int 0, .int 0, .int 0, .int 0])), (r0, .inl (cA 0, 108, .inl (fun _ => 0))), (r1, .inl (cA 0, 108, .inl (fun _ => 0))), (r2, .inl (cA 0, 108, .inl (fun _ => 0))), (r3, .inl (cA 0, 8, .inl (fun _ => 0))), (r4, .inl (cA 0, 120, .inl (fun _ => 0))), (r5, .inl (cA 0, 4, .inl (fil 0 (-1) 3 (fun _ => 0))))]) dX4_init_59 rfl (by decide) (by decide) (fil_s 0 (-1) 2 _) rfl rfl ?_
  refine bo_dup (q := 61) dX4_init_60 rfl rfl ?_
  refine bo_iconst (v := nI 3) (q := 62) dX4_init_61 (by decide) rfl ?_
  refine bo_iconst (v := (-1)) (q := 63) dX4_init_62 (by decide) rfl ?_
  refine bo_iast 6 (i := 3) (g := fil 0 (-1) 4 (fun _ => 0)) (q := 64) (ws' := [(h0, .inr (4, [.ref (r0), .ref (r1), .ref (r2), .int 0, .ref (r3), .ref (r4), .int 0, .null, .null, .null, .null, .null, .int 0, .int 0, .int 0, .int 0])), (r0, .inl (cA 0, 108, .inl (fun _ => 0))), (r1, .inl (cA 0, 108, .inl (fun _ => 0))), (r2, .inl (cA 0, 108, .inl (fun _ => 0))), (r3, .inl (cA 0, 8, .inl (fun _ => 0))), (r4, .inl (cA 0, 120, .inl (fun _ => 0))), (r5, .inl (cA 0, 4, .inl (fil 0 (-1) 4 (fun _ => 0))))]) dX4_init_63 rfl (by decide) (by decide) (fil_s 0 (-1) 3 _) rfl rfl ?_
  refine bo_putF (ci := 4) (kf := 7) (N := 16) (Cn' := RX4) (T := TX4) (ty0 := tyX4) (ty := .array .int) (q := 67) dX4_init_64 rfl tyX4_ok nmX4 fl_X4_25 rfl rfl (by decide +kernel) rfl rfl (Nat.le_of_ble_eq_true rfl) rfl ?_
  refine bo_aload0 (q := 68) dX4_init_67 rfl ?_
  refine bo_iconst (v := nI 4) (q := 69) dX4_init_68 (by decide) rfl ?_
  refine bo_newa (atype := .int) (ty := .int) (j := 0) (N' := 4) (a0 := (4, .inl (fun _ => 0))) (q := 71) dX4_init_69 rfl ac_int (fun _ => rfl) (fun _ _ h => h) (fun _ => rfl) (by decide) (by decide) (by decide) (by decide) (by decide) rfl (fun r6 => ?_)
  refine bo_putF (ci := 4) (kf := 8) (N := 16) (Cn' := RX4) (T := TX4) (ty0 := tyX4) (ty := .array .int) (q := 74) dX4_init_71 rfl tyX4_ok nmX4 fl_X4_28 rfl rfl (by decide +kernel) rfl rfl (Nat.le_of_ble_eq_true rfl) rfl ?_
  refine bo_aload0 (q := 75) dX4_init_74 rfl ?_
  refine bo_sipush (v := nI 160) (q := 78) dX4_init_75 (by decide) rfl ?_
  refine bo_newa (atype := .long) (ty := .long) (j := 1) (N' := 160) (a0 := (160, .inr (.inl (fun _ => 0)))) (q := 80) dX4_init_78 rfl ac_long (fun _ => rfl) (fun _ _ h => h) (fun _ => rfl) (by decide) (by decide) (by decide) (by decide) (by decide) rfl (fun r7 => ?_)
  refine bo_putF (ci := 4) (kf := 9) (N := 16) (Cn' := RX4) (T := TX4) (ty0 := tyX4) (ty := .array .long) (q := 83) dX4_init_80 rfl tyX4_ok nmX4 fl_X4_31 rfl rfl (by decide +kernel) rfl rfl (Nat.le_of_ble_eq_true rfl) rfl ?_
  refine bo_aload0 (q := 84) dX4_init_83 rfl ?_
  refine bo_sipush (v := nI 4096) (q := 87) dX4_init_84 (by decide) rfl ?_
  refine bo_newa (atype := .int) (ty := .int) (j := 0) (N' := 4096) (a0 := (4096, .inl (fun _ => 0))) (q := 89) dX4_init_87 rfl ac_int (fun _ => rfl) (fun _ _ h => h) (fun _ => rfl) (by decide) (by decide) (by decide) (by decide) (by decide) rfl (fun r8 => ?_)
  refine bo_putF (ci := 4) (kf := 10) (N := 16) (Cn' := RX4) (T := TX4) (ty0 := tyX4) (ty := .array .int) (q := 92) dX4_init_89 rfl tyX4_ok nmX4 fl_X4_35 rfl rfl (by decide +kernel) rfl rfl (Nat.le_of_ble_eq_true rfl) rfl ?_
  refine bo_aload0 (q := 93) dX4_init_92 rfl ?_
  refine bo_bipush (v := nI 14) (q := 95) dX4_init_93 (by decide) rfl ?_
  refine bo_newa (atype := .boolean) (ty := .boolean) (j := 2) (N' := 14) (a0 := (14, .inl (fun _ => 0))) (q := 97) dX4_init_95 rfl ac_bool (fun _ => rfl) (fun _ _ h => h) (fun _ => rfl) (by decide) (by decide) (by decide) (by decide) (by decide) rfl (fun r9 => ?_)
  refine bo_putF (ci := 4) (kf := 11) (N := 16) (Cn' := RX4) (T := TX4) (ty0 := tyX4) (ty := .array .boolean) (q := 100) dX4_init_97 rfl tyX4_ok nmX4 fl_X4_38 rfl rfl (by decide +kernel) rfl rfl (Nat.le_of_ble_eq_true rfl) rfl ?_
  refine bo_iconst (v := nI 0) (q := 101) dX4_init_100 (by decide) rfl ?_
  refine bo_istore1 (q := 102) dX4_init_101 rfl (by decide) rfl ?_
  refine bo_iload1 (q := 103) dX4_init_102 rfl ?_
  refine bo_iconst (v := nI 4) (q := 104) dX4_init_103 (by decide) rfl ?_
  refine bo_geF (q := 107) (tgt := 122) dX4_init_104 (by decide) (by decide) rfl ?_
  refine bo_aload0 (q := 108) dX4_init_107 rfl ?_
  refine bo_get (ci := 4) (kf := 0) (N := 16) (Cn' := RX4) (T := TX4) (v := .ref (r0)) (q := 111) dX4_init_108 rfl fl_X4_7 rfl rfl ?_
  refine bo_iconst (v := nI 4) (q := 112) dX4_init_111 (by decide) rfl ?_
  refine bo_iload1 (q := 113) dX4_init_112 rfl ?_
  refine bo_iadd (x := 4) (y := 0) (q := 114) dX4_init_113 rfl ?_
  refine bo_iconst (v := nI 5) (q := 115) dX4_init_114 (by decide) rfl ?_
  refine bo_iast 1 (i := 4) (g := fil 4 (nI 5) 1 (fun _ => 0)) (q := 116) (ws' := [(h0, .inr (4, [.ref (r0), .ref (r1), .ref (r2), .int 0, .ref (r3), .ref (r4), .int 0, .ref (r5), .ref (r6), .ref (r7), .ref (r8), .ref (r9), .int 0, .int 0, .int 0, .int 0])), (r0, .inl (cA 0, 108, .inl (fil 4 (nI 5) 1 (fun _ => 0)))), (r1, .inl (cA 0, 108, .inl (fun _ => 0))), (r2, .inl (cA 0, 108, .inl (fun _ => 0))), (r3, .inl (cA 0, 8, .inl (fun _ => 0))), (r4, .inl (cA 0, 120, .inl (fun _ => 0))), (r5, .inl (cA 0, 4, .inl (fil 0 (-1) 4 (fun _ => 0)))), (r6, .inl (cA 0, 4, .inl (fun _ => 0))), (r7, .inl (cA 1, 160, .inr (.inl (fun _ => 0)))), (r8, .inl (cA 0, 4096, .inl (fun _ => 0))), (r9, .inl (cA 2, 14, .inl (fun _ => 0)))]) dX4_init_115 rfl (by decide) (by decide) (fil_1 4 (nI 5) _) rfl rfl ?_
  refine bo_iinc1 (x := 0) (q := 119) dX4_init_116 rfl (by decide) rfl ?_
  refine bo_goto (tgt := 102) dX4_init_119 (by decide) ?_
  refine bo_iload1 (q := 103) dX4_init_102 rfl ?_
  refine bo_iconst (v := nI 4) (q := 104) dX4_init_103 (by decide) rfl ?_
  refine bo_geF (q := 107) (tgt := 122) dX4_init_104 (by decide) (by decide) rfl ?_
  refine bo_aload0 (q := 108) dX4_init_107 rfl ?_
  refine bo_get (ci := 4) (kf := 0) (N := 16) (Cn' := RX4) (T := TX4) (v := .ref (r0)) (q := 111) dX4_init_108 rfl fl_X4_7 rfl rfl ?_
  refine bo_iconst (v := nI 4) (q := 112) dX4_init_111 (by decide) rfl ?_
  refine bo_iload1 (q := 113) dX4_init_112 rfl ?_
  refine bo_iadd (x := 4) (y := 1) (q := 114) dX4_init_113 rfl ?_
  refine bo_iconst (v := nI 5) (q := 115) dX4_init_114 (by decide) rfl ?_
  refine bo_iast 1 (i := 5) (g := fil 4 (nI 5) 2 (fun _ => 0)) (q := 116) (ws' := [(h0, .inr (4, [.ref (r0), .ref (r1), .ref (r2), .int 0, .ref (r3), .ref (r4), .int 0, .ref (r5), .ref (r6), .ref (r7), .ref (r8), .ref (r9), .int 0, .int 0, .int 0, .int 0])), (r0, .inl (cA 0, 108, .inl (fil 4 (nI 5) 2 (fun _ => 0)))), (r1, .inl (cA 0, 108, .inl (fun _ => 0))), (r2, .inl (cA 0, 108, .inl (fun _ => 0))), (r3, .inl (cA 0, 8, .inl (fun _ => 0))), (r4, .inl (cA 0, 120, .inl (fun _ => 0))), (r5, .inl (cA 0, 4, .inl (fil 0 (-1) 4 (fun _ => 0)))), (r6, .inl (cA 0, 4, .inl (fun _ => 0))), (r7, .inl (cA 1, 160, .inr (.inl (fun _ => 0)))), (r8, .inl (cA 0, 4096, .inl (fun _ => 0))), (r9, .inl (cA 2, 14, .inl (fun _ => 0)))]) dX4_init_115 rfl (by decide) (by decide) (fil_s 4 (nI 5) 1 _) rfl rfl ?_
  refine bo_iinc1 (x := 1) (q := 119) dX4_init_116 rfl (by decide) rfl ?_
  refine bo_goto (tgt := 102) dX4_init_119 (by decide) ?_
  refine bo_iload1 (q := 103) dX4_init_102 rfl ?_
  refine bo_iconst (v := nI 4) (q := 104) dX4_init_103 (by decide) rfl ?_
  refine bo_geF (q := 107) (tgt := 122) dX4_init_104 (by decide) (by decide) rfl ?_
  refine bo_aload0 (q := 108) dX4_init_107 rfl ?_
  refine bo_get (ci := 4) (kf := 0) (N := 16) (Cn' := RX4) (T := TX4) (v := .ref (r0)) (q := 111) dX4_init_108 rfl fl_X4_7 rfl rfl ?_
  refine bo_iconst (v := nI 4) (q := 112) dX4_init_111 (by decide) rfl ?_
  refine bo_iload1 (q := 113) dX4_init_112 rfl ?_
  refine bo_iadd (x := 4) (y := 2) (q := 114) dX4_init_113 rfl ?_
  refine bo_iconst (v := nI 5) (q := 115) dX4_init_114 (by decide) rfl ?_
  refine bo_iast 1 (i := 6) (g := fil 4 (nI 5) 3 (fun _ => 0)) (q := 116) (ws' := [(h0, .inr (4, [.ref (r0), .ref (r1), .ref (r2), .int 0, .ref (r3), .ref (r4), .int 0, .ref (r5), .ref (r6), .ref (r7), .ref (r8), .ref (r9), .int 0, .int 0, .int 0, .int 0])), (r0, .inl (cA 0, 108, .inl (fil 4 (nI 5) 3 (fun _ => 0)))), (r1, .inl (cA 0, 108, .inl (fun _ => 0))), (r2, .inl (cA 0, 108, .inl (fun _ => 0))), (r3, .inl (cA 0, 8, .inl (fun _ => 0))), (r4, .inl (cA 0, 120, .inl (fun _ => 0))), (r5, .inl (cA 0, 4, .inl (fil 0 (-1) 4 (fun _ => 0)))), (r6, .inl (cA 0, 4, .inl (fun _ => 0))), (r7, .inl (cA 1, 160, .inr (.inl (fun _ => 0)))), (r8, .inl (cA 0, 4096, .inl (fun _ => 0))), (r9, .inl (cA 2, 14, .inl (fun _ => 0)))]) dX4_init_115 rfl (by decide) (by decide) (fil_s 4 (nI 5) 2 _) rfl rfl ?_
  refine bo_iinc1 (x := 2) (q := 119) dX4_init_116 rfl (by decide) rfl ?_
  refine bo_goto (tgt := 102) dX4_init_119 (by decide) ?_
  refine bo_iload1 (q := 103) dX4_init_102 rfl ?_
  refine bo_iconst (v := nI 4) (q := 104) dX4_init_103 (by decide) rfl ?_
  refine bo_geF (q := 107) (tgt := 122) dX4_init_104 (by decide) (by decide) rfl ?_
  refine bo_aload0 (q := 108) dX4_init_107 rfl ?_
  refine bo_get (ci := 4) (kf := 0) (N := 16) (Cn' := RX4) (T := TX4) (v := .ref (r0)) (q := 111) dX4_init_108 rfl fl_X4_7 rfl rfl ?_
  refine bo_iconst (v := nI 4) (q := 112) dX4_init_111 (by decide) rfl ?_
  refine bo_iload1 (q := 113) dX4_init_112 rfl ?_
  refine bo_iadd (x := 4) (y := 3) (q := 114) dX4_init_113 rfl ?_
  refine bo_iconst (v := nI 5) (q := 115) dX4_init_114 (by decide) rfl ?_
  refine bo_iast 1 (i := 7) (g := fil 4 (nI 5) 4 (fun _ => 0)) (q := 116) (ws' := [(h0, .inr (4, [.ref (r0), .ref (r1), .ref (r2), .int 0, .ref (r3), .ref (r4), .int 0, .ref (r5), .ref (r6), .ref (r7), .ref (r8), .ref (r9), .int 0, .int 0, .int 0, .int 0])), (r0, .inl (cA 0, 108, .inl (fil 4 (nI 5) 4 (fun _ => 0)))), (r1, .inl (cA 0, 108, .inl (fun _ => 0))), (r2, .inl (cA 0, 108, .inl (fun _ => 0))), (r3, .inl (cA 0, 8, .inl (fun _ => 0))), (r4, .inl (cA 0, 120, .inl (fun _ => 0))), (r5, .inl (cA 0, 4, .inl (fil 0 (-1) 4 (fun _ => 0)))), (r6, .inl (cA 0, 4, .inl (fun _ => 0))), (r7, .inl (cA 1, 160, .inr (.inl (fun _ => 0)))), (r8, .inl (cA 0, 4096, .inl (fun _ => 0))), (r9, .inl (cA 2, 14, .inl (fun _ => 0)))]) dX4_init_115 rfl (by decide) (by decide) (fil_s 4 (nI 5) 3 _) rfl rfl ?_
  refine bo_iinc1 (x := 3) (q := 119) dX4_init_116 rfl (by decide) rfl ?_
  refine bo_goto (tgt := 102) dX4_init_119 (by decide) ?_
  refine bo_iload1 (q := 103) dX4_init_102 rfl ?_
  refine bo_iconst (v := nI 4) (q := 104) dX4_init_103 (by decide) rfl ?_
  refine bo_geT (tgt := 122) dX4_init_104 (by decide) (by decide) ?_
  refine bo_iconst (v := nI 0) (q := 123) dX4_init_122 (by decide) rfl ?_
  refine bo_istore1 (q := 124) dX4_init_123 rfl (by decide) rfl ?_
  refine bo_iload1 (q := 125) dX4_init_124 rfl ?_
  refine bo_bipush (v := nI 12) (q := 127) dX4_init_125 (by decide) rfl ?_
  refine bo_geF (q := 130) (tgt := 147) dX4_init_127 (by decide) (by decide) rfl ?_
  refine bo_aload0 (q := 131) dX4_init_130 rfl ?_
  refine bo_get (ci := 4) (kf := 0) (N := 16) (Cn' := RX4) (T := TX4) (v := .ref (r0)) (q := 134) dX4_init_131 rfl fl_X4_7 rfl rfl ?_
  refine bo_bipush (v := nI 8) (q := 136) dX4_init_134 (by decide) rfl ?_
  refine bo_iload1 (q := 137) dX4_init_136 rfl ?_
  refine bo_iadd (x := 8) (y := 0) (q := 138) dX4_init_137 rfl ?_
  refine bo_bipush (v := nI 10) (q := 140) dX4_init_138 (by decide) rfl ?_
  refine bo_iast 1 (i := 8) (g := fil 8 (nI 10) 1 (fil 4 (nI 5) 4 (fun _ => 0))) (q := 141) (ws' := [(h0, .inr (4, [.ref (r0), .ref (r1), .ref (r2), .int 0, .ref (r3), .ref (r4), .int 0, .ref (r5), .ref (r6), .ref (r7), .ref (r8), .ref (r9), .int 0, .int 0, .int 0, .int 0])), (r0, .inl (cA 0, 108, .inl (fil 8 (nI 10) 1 (fil 4 (nI 5) 4 (fun _ => 0))))), (r1, .inl (cA 0, 108, .inl (fun _ => 0))), (r2, .inl (cA 0, 108, .inl (fun _ => 0))), (r3, .inl (cA 0, 8, .inl (fun _ => 0))), (r4, .inl (cA 0, 120, .inl (fun _ => 0))), (r5, .inl (cA 0, 4, .inl (fil 0 (-1) 4 (fun _ => 0)))), (r6, .inl (cA 0, 4, .inl (fun _ => 0))), (r7, .inl (cA 1, 160, .inr (.inl (fun _ => 0)))), (r8, .inl (cA 0, 4096, .inl (fun _ => 0))), (r9, .inl (cA 2, 14, .inl (fun _ => 0)))]) dX4_init_140 rfl (by decide) (by decide) (fil_1 8 (nI 10) _) rfl rfl ?_
  refine bo_iinc1 (x := 0) (q := 144) dX4_init_141 rfl (by decide) rfl ?_
  refine bo_goto (tgt := 124) dX4_init_144 (by decide) ?_
  refine bo_iload1 (q := 125) dX4_init_124 rfl ?_
  refine bo_bipush (v := nI 12) (q := 127) dX4_init_125 (by decide) rfl ?_
  refine bo_geF (q := 130) (tgt := 147) dX4_init_127 (by decide) (by decide) rfl ?_
  refine bo_aload0 (q := 131) dX4_init_130 rfl ?_
  refine bo_get (ci := 4) (kf := 0) (N := 16) (Cn' := RX4) (T := TX4) (v := .ref (r0)) (q := 134) dX4_init_131 rfl fl_X4_7 rfl rfl ?_
  refine bo_bipush (v := nI 8) (q := 136) dX4_init_134 (by decide) rfl ?_
  refine bo_iload1 (q := 137) dX4_init_136 rfl ?_
  refine bo_iadd (x := 8) (y := 1) (q := 138) dX4_init_137 rfl ?_
  refine bo_bipush (v := nI 10) (q := 140) dX4_init_138 (by decide) rfl ?_
  refine bo_iast 1 (i := 9) (g := fil 8 (nI 10) 2 (fil 4 (nI 5) 4 (fun _ => 0))) (q := 141) (ws' := [(h0, .inr (4, [.ref (r0), .ref (r1), .ref (r2), .int 0, .ref (r3), .ref (r4), .int 0, .ref (r5), .ref (r6), .ref (r7), .ref (r8), .ref (r9), .int 0, .int 0, .int 0, .int 0])), (r0, .inl (cA 0, 108, .inl (fil 8 (nI 10) 2 (fil 4 (nI 5) 4 (fun _ => 0))))), (r1, .inl (cA 0, 108, .inl (fun _ => 0))), (r2, .inl (cA 0, 108, .inl (fun _ => 0))), (r3, .inl (cA 0, 8, .inl (fun _ => 0))), (r4, .inl (cA 0, 120, .inl (fun _ => 0))), (r5, .inl (cA 0, 4, .inl (fil 0 (-1) 4 (fun _ => 0)))), (r6, .inl (cA 0, 4, .inl (fun _ => 0))), (r7, .inl (cA 1, 160, .inr (.inl (fun _ => 0)))), (r8, .inl (cA 0, 4096, .inl (fun _ => 0))), (r9, .inl (cA 2, 14, .inl (fun _ => 0)))]) dX4_init_140 rfl (by decide) (by decide) (fil_s 8 (nI 10) 1 _) rfl rfl ?_
  refine bo_iinc1 (x := 1) (q := 144) dX4_init_141 rfl (by decide) rfl ?_
  refine bo_goto (tgt := 124) dX4_init_144 (by decide) ?_
  refine bo_iload1 (q := 125) dX4_init_124 rfl ?_
  refine bo_bipush (v := nI 12) (q := 127) dX4_init_125 (by decide) rfl ?_
  refine bo_geF (q := 130) (tgt := 147) dX4_init_127 (by decide) (by decide) rfl ?_
  refine bo_aload0 (q := 131) dX4_init_130 rfl ?_
  refine bo_get (ci := 4) (kf := 0) (N := 16) (Cn' := RX4) (T := TX4) (v := .ref (r0)) (q := 134) dX4_init_131 rfl fl_X4_7 rfl rfl ?_
  refine bo_bipush (v := nI 8) (q := 136) dX4_init_134 (by decide) rfl ?_
  refine bo_iload1 (q := 137) dX4_init_136 rfl ?_
  refine bo_iadd (x := 8) (y := 2) (q := 138) dX4_init_137 rfl ?_
  refine bo_bipush (v := nI 10) (q := 140) dX4_init_138 (by decide) rfl ?_
  refine bo_iast 1 (i := 10) (g := fil 8 (nI 10) 3 (fil 4 (nI 5) 4 (fun _ => 0))) (q := 141) (ws' := [(h0, .inr (4, [.ref (r0), .ref (r1), .ref (r2), .int 0, .ref (r3), .ref (r4), .int 0, .ref (r5), .ref (r6), .ref (r7), .ref (r8), .ref (r9), .int 0, .int 0, .int 0, .int 0])), (r0, .inl (cA 0, 108, .inl (fil 8 (nI 10) 3 (fil 4 (nI 5) 4 (fun _ => 0))))), (r1, .inl (cA 0, 108, .inl (fun _ => 0))), (r2, .inl (cA 0, 108, .inl (fun _ => 0))), (r3, .inl (cA 0, 8, .inl (fun _ => 0))), (r4, .inl (cA 0, 120, .inl (fun _ => 0))), (r5, .inl (cA 0, 4, .inl (fil 0 (-1) 4 (fun _ => 0)))), (r6, .inl (cA 0, 4, .inl (fun _ => 0))), (r7, .inl (cA 1, 160, .inr (.inl (fun _ => 0)))), (r8, .inl (cA 0, 4096, .inl (fun _ => 0))), (r9, .inl (cA 2, 14, .inl (fun _ => 0)))]) dX4_init_140 rfl (by decide) (by decide) (fil_s 8 (nI 10) 2 _) rfl rfl ?_
  refine bo_iinc1 (x := 2) (q := 144) dX4_init_141 rfl (by decide) rfl ?_
  refine bo_goto (tgt := 124) dX4_init_144 (by decide) ?_
  refine bo_iload1 (q := 125) dX4_init_124 rfl ?_
  refine bo_bipush (v := nI 12) (q := 127) dX4_init_125 (by decide) rfl ?_
  refine bo_geF (q := 130) (tgt := 147) dX4_init_127 (by decide) (by decide) rfl ?_
  refine bo_aload0 (q := 131) dX4_init_130 rfl ?_
  refine bo_get (ci := 4) (kf := 0) (N := 16) (Cn' := RX4) (T := TX4) (v := .ref (r0)) (q := 134) dX4_init_131 rfl fl_X4_7 rfl rfl ?_
  refine bo_bipush (v := nI 8) (q := 136) dX4_init_134 (by decide) rfl ?_
  refine bo_iload1 (q := 137) dX4_init_136 rfl ?_
  refine bo_iadd (x := 8) (y := 3) (q := 138) dX4_init_137 rfl ?_
  refine bo_bipush (v := nI 10) (q := 140) dX4_init_138 (by decide) rfl ?_
  refine bo_iast 1 (i := 11) (g := fil 8 (nI 10) 4 (fil 4 (nI 5) 4 (fun _ => 0))) (q := 141) (ws' := [(h0, .inr (4, [.ref (r0), .ref (r1), .ref (r2), .int 0, .ref (r3), .ref (r4), .int 0, .ref (r5), .ref (r6), .ref (r7), .ref (r8), .ref (r9), .int 0, .int 0, .int 0, .int 0])), (r0, .inl (cA 0, 108, .inl (fil 8 (nI 10) 4 (fil 4 (nI 5) 4 (fun _ => 0))))), (r1, .inl (cA 0, 108, .inl (fun _ => 0))), (r2, .inl (cA 0, 108, .inl (fun _ => 0))), (r3, .inl (cA 0, 8, .inl (fun _ => 0))), (r4, .inl (cA 0, 120, .inl (fun _ => 0))), (r5, .inl (cA 0, 4, .inl (fil 0 (-1) 4 (fun _ => 0)))), (r6, .inl (cA 0, 4, .inl (fun _ => 0))), (r7, .inl (cA 1, 160, .inr (.inl (fun _ => 0)))), (r8, .inl (cA 0, 4096, .inl (fun _ => 0))), (r9, .inl (cA 2, 14, .inl (fun _ => 0)))]) dX4_init_140 rfl (by decide) (by decide) (fil_s 8 (nI 10) 3 _) rfl rfl ?_
  refine bo_iinc1 (x := 3) (q := 144) dX4_init_141 rfl (by decide) rfl ?_
  refine bo_goto (tgt := 124) dX4_init_144 (by decide) ?_
  refine bo_iload1 (q := 125) dX4_init_124 rfl ?_
  refine bo_bipush (v := nI 12) (q := 127) dX4_init_125 (by decide) rfl ?_
  refine bo_geF (q := 130) (tgt := 147) dX4_init_127 (by decide) (by decide) rfl ?_
  refine bo_aload0 (q := 131) dX4_init_130 rfl ?_
  refine bo_get (ci := 4) (kf := 0) (N := 16) (Cn' := RX4) (T := TX4) (v := .ref (r0)) (q := 134) dX4_init_131 rfl fl_X4_7 rfl rfl ?_
  refine bo_bipush (v := nI 8) (q := 136) dX4_init_134 (by decide) rfl ?_
  refine bo_iload1 (q := 137) dX4_init_136 rfl ?_
  refine bo_iadd (x := 8) (y := 4) (q := 138) dX4_init_137 rfl ?_
  refine bo_bipush (v := nI 10) (q := 140) dX4_init_138 (by decide) rfl ?_
  refine bo_iast 1 (i := 12) (g := fil 8 (nI 10) 5 (fil 4 (nI 5) 4 (fun _ => 0))) (q := 141) (ws' := [(h0, .inr (4, [.ref (r0), .ref (r1), .ref (r2), .int 0, .ref (r3), .ref (r4), .int 0, .ref (r5), .ref (r6), .ref (r7), .ref (r8), .ref (r9), .int 0, .int 0, .int 0, .int 0])), (r0, .inl (cA 0, 108, .inl (fil 8 (nI 10) 5 (fil 4 (nI 5) 4 (fun _ => 0))))), (r1, .inl (cA 0, 108, .inl (fun _ => 0))), (r2, .inl (cA 0, 108, .inl (fun _ => 0))), (r3, .inl (cA 0, 8, .inl (fun _ => 0))), (r4, .inl (cA 0, 120, .inl (fun _ => 0))), (r5, .inl (cA 0, 4, .inl (fil 0 (-1) 4 (fun _ => 0)))), (r6, .inl (cA 0, 4, .inl (fun _ => 0))), (r7, .inl (cA 1, 160, .inr (.inl (fun _ => 0)))), (r8, .inl (cA 0, 4096, .inl (fun _ => 0))), (r9, .inl (cA 2, 14, .inl (fun _ => 0)))]) dX4_init_140 rfl (by decide) (by decide) (fil_s 8 (nI 10) 4 _) rfl rfl ?_
  refine bo_iinc1 (x := 4) (q := 144) dX4_init_141 rfl (by decide) rfl ?_
  refine bo_goto (tgt := 124) dX4_init_144 (by decide) ?_
  refine bo_iload1 (q := 125) dX4_init_124 rfl ?_
  refine bo_bipush (v := nI 12) (q := 127) dX4_init_125 (by decide) rfl ?_
  refine bo_geF (q := 130) (tgt := 147) dX4_init_127 (by decide) (by decide) rfl ?_
  refine bo_aload0 (q := 131) dX4_init_130 rfl ?_
  refine bo_get (ci := 4) (kf := 0) (N := 16) (Cn' := RX4) (T := TX4) (v := .ref (r0)) (q := 134) dX4_init_131 rfl fl_X4_7 rfl rfl ?_
  refine bo_bipush (v := nI 8) (q := 136) dX4_init_134 (by decide) rfl ?_
  refine bo_iload1 (q := 137) dX4_init_136 rfl ?_
  refine bo_iadd (x := 8) (y := 5) (q := 138) dX4_init_137 rfl ?_
  refine bo_bipush (v := nI 10) (q := 140) dX4_init_138 (by decide) rfl ?_
  refine bo_iast 1 (i := 13) (g := fil 8 (nI 10) 6 (fil 4 (nI 5) 4 (fun _ => 0))) (q := 141) (ws' := [(h0, .inr (4, [.ref (r0), .ref (r1), .ref (r2), .int 0, .ref (r3), .ref (r4), .int 0, .ref (r5), .ref (r6), .ref (r7), .ref (r8), .ref (r9), .int 0, .int 0, .int 0, .int 0])), (r0, .inl (cA 0, 108, .inl (fil 8 (nI 10) 6 (fil 4 (nI 5) 4 (fun _ => 0))))), (r1, .inl (cA 0, 108, .inl (fun _ => 0))), (r2, .inl (cA 0, 108, .inl (fun _ => 0))), (r3, .inl (cA 0, 8, .inl (fun _ => 0))), (r4, .inl (cA 0, 120, .inl (fun _ => 0))), (r5, .inl (cA 0, 4, .inl (fil 0 (-1) 4 (fun _ => 0)))), (r6, .inl (cA 0, 4, .inl (fun _ => 0))), (r7, .inl (cA 1, 160, .inr (.inl (fun _ => 0)))), (r8, .inl (cA 0, 4096, .inl (fun _ => 0))), (r9, .inl (cA 2, 14, .inl (fun _ => 0)))]) dX4_init_140 rfl (by decide) (by decide) (fil_s 8 (nI 10) 5 _) rfl rfl ?_
  refine bo_iinc1 (x := 5) (q := 144) dX4_init_141 rfl (by decide) rfl ?_
  refine bo_goto (tgt := 124) dX4_init_144 (by decide) ?_
  refine bo_iload1 (q := 125) dX4_init_124 rfl ?_
  refine bo_bipush (v := nI 12) (q := 127) dX4_init_125 (by decide) rfl ?_
  refine bo_geF (q := 130) (tgt := 147) dX4_init_127 (by decide) (by decide) rfl ?_
  refine bo_aload0 (q := 131) dX4_init_130 rfl ?_
  refine bo_get (ci := 4) (kf := 0) (N := 16) (Cn' := RX4) (T := TX4) (v := .ref (r0)) (q := 134) dX4_init_131 rfl fl_X4_7 rfl rfl ?_
  refine bo_bipush (v := nI 8) (q := 136) dX4_init_134 (by decide) rfl ?_
  refine bo_iload1 (q := 137) dX4_init_136 rfl ?_
  refine bo_iadd (x := 8) (y := 6) (q := 138) dX4_init_137 rfl ?_
  refine bo_bipush (v := nI 10) (q := 140) dX4_init_138 (by decide) rfl ?_
  refine bo_iast 1 (i := 14) (g := fil 8 (nI 10) 7 (fil 4 (nI 5) 4 (fun _ => 0))) (q := 141) (ws' := [(h0, .inr (4, [.ref (r0), .ref (r1), .ref (r2), .int 0, .ref (r3), .ref (r4), .int 0, .ref (r5), .ref (r6), .ref (r7), .ref (r8), .ref (r9), .int 0, .int 0, .int 0, .int 0])), (r0, .inl (cA 0, 108, .inl (fil 8 (nI 10) 7 (fil 4 (nI 5) 4 (fun _ => 0))))), (r1, .inl (cA 0, 108, .inl (fun _ => 0))), (r2, .inl (cA 0, 108, .inl (fun _ => 0))), (r3, .inl (cA 0, 8, .inl (fun _ => 0))), (r4, .inl (cA 0, 120, .inl (fun _ => 0))), (r5, .inl (cA 0, 4, .inl (fil 0 (-1) 4 (fun _ => 0)))), (r6, .inl (cA 0, 4, .inl (fun _ => 0))), (r7, .inl (cA 1, 160, .inr (.inl (fun _ => 0)))), (r8, .inl (cA 0, 4096, .inl (fun _ => 0))), (r9, .inl (cA 2, 14, .inl (fun _ => 0)))]) dX4_init_140 rfl (by decide) (by decide) (fil_s 8 (nI 10) 6 _) rfl rfl ?_
  refine bo_iinc1 (x := 6) (q := 144) dX4_init_141 rfl (by decide) rfl ?_
  refine bo_goto (tgt := 124) dX4_init_144 (by decide) ?_
  refine bo_iload1 (q := 125) dX4_init_124 rfl ?_
  refine bo_bipush (v := nI 12) (q := 127) dX4_init_125 (by decide) rfl ?_
  refine bo_geF (q := 130) (tgt := 147) dX4_init_127 (by decide) (by decide) rfl ?_
  refine bo_aload0 (q := 131) dX4_init_130 rfl ?_
  refine bo_get (ci := 4) (kf := 0) (N := 16) (Cn' := RX4) (T := TX4) (v := .ref (r0)) (q := 134) dX4_init_131 rfl fl_X4_7 rfl rfl ?_
  refine bo_bipush (v := nI 8) (q := 136) dX4_init_134 (by decide) rfl ?_
  refine bo_iload1 (q := 137) dX4_init_136 rfl ?_
  refine bo_iadd (x := 8) (y := 7) (q := 138) dX4_init_137 rfl ?_
  refine bo_bipush (v := nI 10) (q := 140) dX4_init_138 (by decide) rfl ?_
  refine bo_iast 1 (i := 15) (g := fil 8 (nI 10) 8 (fil 4 (nI 5) 4 (fun _ => 0))) (q := 141) (ws' := [(h0, .inr (4, [.ref (r0), .ref (r1), .ref (r2), .int 0, .ref (r3), .ref (r4), .int 0, .ref (r5), .ref (r6), .ref (r7), .ref (r8), .ref (r9), .int 0, .int 0, .int 0, .int 0])), (r0, .inl (cA 0, 108, .inl (fil 8 (nI 10) 8 (fil 4 (nI 5) 4 (fun _ => 0))))), (r1, .inl (cA 0, 108, .inl (fun _ => 0))), (r2, .inl (cA 0, 108, .inl (fun _ => 0))), (r3, .inl (cA 0, 8, .inl (fun _ => 0))), (r4, .inl (cA 0, 120, .inl (fun _ => 0))), (r5, .inl (cA 0, 4, .inl (fil 0 (-1) 4 (fun _ => 0)))), (r6, .inl (cA 0, 4, .inl (fun _ => 0))), (r7, .inl (cA 1, 160, .inr (.inl (fun _ => 0)))), (r8, .inl (cA 0, 4096, .inl (fun _ => 0))), (r9, .inl (cA 2, 14, .inl (fun _ => 0)))]) dX4_init_140 rfl (by decide) (by decide) (fil_s 8 (nI 10) 7 _) rfl rfl ?_
  refine bo_iinc1 (x := 7) (q := 144) dX4_init_141 rfl (by decide) rfl ?_
  refine bo_goto (tgt := 124) dX4_init_144 (by decide) ?_
  refine bo_iload1 (q := 125) dX4_init_124 rfl ?_
  refine bo_bipush (v := nI 12) (q := 127) dX4_init_125 (by decide) rfl ?_
  refine bo_geF (q := 130) (tgt := 147) dX4_init_127 (by decide) (by decide) rfl ?_
  refine bo_aload0 (q := 131) dX4_init_130 rfl ?_
  refine bo_get (ci := 4) (kf := 0) (N := 16) (Cn' := RX4) (T := TX4) (v := .ref (r0)) (q := 134) dX4_init_131 rfl fl_X4_7 rfl rfl ?_
  refine bo_bipush (v := nI 8) (q := 136) dX4_init_134 (by decide) rfl ?_
  refine bo_iload1 (q := 137) dX4_init_136 rfl ?_
  refine bo_iadd (x := 8) (y := 8) (q := 138) dX4_init_137 rfl ?_
  refine bo_bipush (v := nI 10) (q := 140) dX4_init_138 (by decide) rfl ?_
  refine bo_iast 1 (i := 16) (g := fil 8 (nI 10) 9 (fil 4 (nI 5) 4 (fun _ => 0))) (q := 141) (ws' := [(h0, .inr (4, [.ref (r0), .ref (r1), .ref (r2), .int 0, .ref (r3), .ref (r4), .int 0, .ref (r5), .ref (r6), .ref (r7), .ref (r8), .ref (r9), .int 0, .int 0, .int 0, .int 0])), (r0, .inl (cA 0, 108, .inl (fil 8 (nI 10) 9 (fil 4 (nI 5) 4 (fun _ => 0))))), (r1, .inl (cA 0, 108, .inl (fun _ => 0))), (r2, .inl (cA 0, 108, .inl (fun _ => 0))), (r3, .inl (cA 0, 8, .inl (fun _ => 0))), (r4, .inl (cA 0, 120, .inl (fun _ => 0))), (r5, .inl (cA 0, 4, .inl (fil 0 (-1) 4 (fun _ => 0)))), (r6, .inl (cA 0, 4, .inl (fun _ => 0))), (r7, .inl (cA 1, 160, .inr (.inl (fun _ => 0)))), (r8, .inl (cA 0, 4096, .inl (fun _ => 0))), (r9, .inl (cA 2, 14, .inl (fun _ => 0)))]) dX4_init_140 rfl (by decide) (by decide) (fil_s 8 (nI 10) 8 _) rfl rfl ?_
  refine bo_iinc1 (x := 8) (q := 144) dX4_init_141 rfl (by decide) rfl ?_
  refine bo_goto (tgt := 124) dX4_init_144 (by decide) ?_
  refine bo_iload1 (q := 125) dX4_init_124 rfl ?_
  refine bo_bipush (v := nI 12) (q := 127) dX4_init_125 (by decide) rfl ?_
  refine bo_geF (q := 130) (tgt := 147) dX4_init_127 (by decide) (by decide) rfl ?_
  refine bo_aload0 (q := 131) dX4_init_130 rfl ?_
  refine bo_get (ci := 4) (kf := 0) (N := 16) (Cn' := RX4) (T := TX4) (v := .ref (r0)) (q := 134) dX4_init_131 rfl fl_X4_7 rfl rfl ?_
  refine bo_bipush (v := nI 8) (q := 136) dX4_init_134 (by decide) rfl ?_
  refine bo_iload1 (q := 137) dX4_init_136 rfl ?_
  refine bo_iadd (x := 8) (y := 9) (q := 138) dX4_init_137 rfl ?_
  refine bo_bipush (v := nI 10) (q := 140) dX4_init_138 (by decide) rfl ?_
  refine bo_iast 1 (i := 17) (g := fil 8 (nI 10) 10 (fil 4 (nI 5) 4 (fun _ => 0))) (q := 141) (ws' := [(h0, .inr (4, [.ref (r0), .ref (r1), .ref (r2), .int 0, .ref (r3), .ref (r4), .int 0, .ref (r5), .ref (r6), .ref (r7), .ref (r8), .ref (r9), .int 0, .int 0, .int 0, .int 0])), (r0, .inl (cA 0, 108, .inl (fil 8 (nI 10) 10 (fil 4 (nI 5) 4 (fun _ => 0))))), (r1, .inl (cA 0, 108, .inl (fun _ => 0))), (r2, .inl (cA 0, 108, .inl (fun _ => 0))), (r3, .inl (cA 0, 8, .inl (fun _ => 0))), (r4, .inl (cA 0, 120, .inl (fun _ => 0))), (r5, .inl (cA 0, 4, .inl (fil 0 (-1) 4 (fun _ => 0)))), (r6, .inl (cA 0, 4, .inl (fun _ => 0))), (r7, .inl (cA 1, 160, .inr (.inl (fun _ => 0)))), (r8, .inl (cA 0, 4096, .inl (fun _ => 0))), (r9, .inl (cA 2, 14, .inl (fun _ => 0)))]) dX4_init_140 rfl (by decide) (by decide) (fil_s 8 (nI 10) 9 _) rfl rfl ?_
  refine bo_iinc1 (x := 9) (q := 144) dX4_init_141 rfl (by decide) rfl ?_
  refine bo_goto (tgt := 124) dX4_init_144 (by decide) ?_
  refine bo_iload1 (q := 125) dX4_init_124 rfl ?_
  refine bo_bipush (v := nI 12) (q := 127) dX4_init_125 (by decide) rfl ?_
  refine bo_geF (q := 130) (tgt := 147) dX4_init_127 (by decide) (by decide) rfl ?_
  refine bo_aload0 (q := 131) dX4_init_130 rfl ?_
  refine bo_get (ci := 4) (kf := 0) (N := 16) (Cn' := RX4) (T := TX4) (v := .ref (r0)) (q := 134) dX4_init_131 rfl fl_X4_7 rfl rfl ?_
  refine bo_bipush (v := nI 8) (q := 136) dX4_init_134 (by decide) rfl ?_
  refine bo_iload1 (q := 137) dX4_init_136 rfl ?_
  refine bo_iadd (x := 8) (y := 10) (q := 138) dX4_init_137 rfl ?_
  refine bo_bipush (v := nI 10) (q := 140) dX4_init_138 (by decide) rfl ?_
  refine bo_iast 1 (i := 18) (g := fil 8 (nI 10) 11 (fil 4 (nI 5) 4 (fun _ => 0))) (q := 141) (ws' := [(h0, .inr (4, [.ref (r0), .ref (r1), .ref (r2), .int 0, .ref (r3), .ref (r4), .int 0, .ref (r5), .ref (r6), .ref (r7), .ref (r8), .ref (r9), .int 0, .int 0, .int 0, .int 0])), (r0, .inl (cA 0, 108, .inl (fil 8 (nI 10) 11 (fil 4 (nI 5) 4 (fun _ => 0))))), (r1, .inl (cA 0, 108, .inl (fun _ => 0))), (r2, .inl (cA 0, 108, .inl (fun _ => 0))), (r3, .inl (cA 0, 8, .inl (fun _ => 0))), (r4, .inl (cA 0, 120, .inl (fun _ => 0))), (r5, .inl (cA 0, 4, .inl (fil 0 (-1) 4 (fun _ => 0)))), (r6, .inl (cA 0, 4, .inl (fun _ => 0))), (r7, .inl (cA 1, 160, .inr (.inl (fun _ => 0)))), (r8, .inl (cA 0, 4096, .inl (fun _ => 0))), (r9, .inl (cA 2, 14, .inl (fun _ => 0)))]) dX4_init_140 rfl (by decide) (by decide) (fil_s 8 (nI 10) 10 _) rfl rfl ?_
  refine bo_iinc1 (x := 10) (q := 144) dX4_init_141 rfl (by decide) rfl ?_
  refine bo_goto (tgt := 124) dX4_init_144 (by decide) ?_
  refine bo_iload1 (q := 125) dX4_init_124 rfl ?_
  refine bo_bipush (v := nI 12) (q := 127) dX4_init_125 (by decide) rfl ?_
  refine bo_geF (q := 130) (tgt := 147) dX4_init_127 (by decide) (by decide) rfl ?_
  refine bo_aload0 (q := 131) dX4_init_130 rfl ?_
  refine bo_get (ci := 4) (kf := 0) (N := 16) (Cn' := RX4) (T := TX4) (v := .ref (r0)) (q := 134) dX4_init_131 rfl fl_X4_7 rfl rfl ?_
  refine bo_bipush (v := nI 8) (q := 136) dX4_init_134 (by decide) rfl ?_
  refine bo_iload1 (q := 137) dX4_init_136 rfl ?_
  refine bo_iadd (x := 8) (y := 11) (q := 138) dX4_init_137 rfl ?_
  refine bo_bipush (v := nI 10) (q := 140) dX4_init_138 (by decide) rfl ?_
  refine bo_iast 1 (i := 19) (g := fil 8 (nI 10) 12 (fil 4 (nI 5) 4 (fun _ => 0))) (q := 141) (ws' := [(h0, .inr (4, [.ref (r0), .ref (r1), .ref (r2), .int 0, .ref (r3), .ref (r4), .int 0, .ref (r5), .ref (r6), .ref (r7), .ref (r8), .ref (r9), .int 0, .int 0, .int 0, .int 0])), (r0, .inl (cA 0, 108, .inl (fil 8 (nI 10) 12 (fil 4 (nI 5) 4 (fun _ => 0))))), (r1, .inl (cA 0, 108, .inl (fun _ => 0))), (r2, .inl (cA 0, 108, .inl (fun _ => 0))), (r3, .inl (cA 0, 8, .inl (fun _ => 0))), (r4, .inl (cA 0, 120, .inl (fun _ => 0))), (r5, .inl (cA 0, 4, .inl (fil 0 (-1) 4 (fun _ => 0)))), (r6, .inl (cA 0, 4, .inl (fun _ => 0))), (r7, .inl (cA 1, 160, .inr (.inl (fun _ => 0)))), (r8, .inl (cA 0, 4096, .inl (fun _ => 0))), (r9, .inl (cA 2, 14, .inl (fun _ => 0)))]) dX4_init_140 rfl (by decide) (by decide) (fil_s 8 (nI 10) 11 _) rfl rfl ?_
  refine bo_iinc1 (x := 11) (q := 144) dX4_init_141 rfl (by decide) rfl ?_
  refine bo_goto (tgt := 124) dX4_init_144 (by decide) ?_
  refine bo_iload1 (q := 125) dX4_init_124 rfl ?_
  refine bo_bipush (v := nI 12) (q := 127) dX4_init_125 (by decide) rfl ?_
  refine bo_geT (tgt := 147) dX4_init_127 (by decide) (by decide) ?_
  exact bo_ret dX4_init_147 rfl rfl ⟨(fun i => match i with | 0 => h0 | 1 => r0 | 2 => r1 | 3 => r2 | 4 => r3 | 5 => r4 | 6 => r5 | 7 => r6 | 8 => r7 | 9 => r8 | 10 => r9 | _ => 0), rfl, rfl⟩
