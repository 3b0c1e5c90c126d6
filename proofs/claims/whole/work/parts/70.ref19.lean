section LR
variable {d : Nat} {own : String} {cc : ByteArray} {nL : Nat} {ret : Option FieldType} {pc : Nat} {lo : List (Option Value)} {h : AH} {Q : Option Value → AH → Prop}
theorem go_lretE {x y : Int64} (hd : decode cc pc = .ok (.lreturn, 1)) (hr : ret = some .long) (he : y = x) (kk : Q (some (.long y)) h) : Go d own cc nL ret pc lo [.long x] h Q := by subst he; exact go_lret hd hr kk
end LR
theorem bitI_ge {b : Nat} (h : b ≤ 64) : (0 : Int32) ≤ bitI b ↔ b ≠ 0 := by
  unfold bitI
  by_cases h0 : b = 0
  · rw [if_pos h0]
    exact ⟨fun z => absurd z (by decide), fun z => absurd h0 z⟩
  · rw [if_neg h0]
    refine ⟨fun _ => h0, fun _ => ?_⟩
    rw [Int32.le_iff_toInt_le, nI_toInt (by omega)]
    have : (0 : Int32).toInt = 0 := by decide
    omega

set_option maxHeartbeats 4000000 in
set_option maxRecDepth 100000 in
theorem r_narrow {h : AH} {Q : Option Value → AH → Prop} {b : Nat} {v : Int64} (hb : b ≤ 64) (hQ : Q (some (.long (lowB b v))) h) : Cn 1 yX4_narrow cX4_narrow 3 (some .long) [.int (nI b), .long v] h Q := by
  refine cn_of (own := RX4) (lo := [some (.int (nI b)), some (.long v), none]) 0 rfl (by decide +kernel) rfl (Nat.le_of_ble_eq_true rfl) ?_
  refine go_iloadn0 (q := 1) dX4_narrow_0 rfl ?_
  refine go_bipushN (v := 8) (q := 3) dX4_narrow_1 (by decide) rfl ?_
  refine go_icmp_neN (tgt := 13) (q := 6) dX4_narrow_3 (by decide) rfl (by omega) (by omega) (fun h1 => ?_) (fun h1 => ?_)
  · skip
    refine go_iloadn0 (q := 14) dX4_narrow_13 rfl ?_
    refine go_bipushN (v := 16) (q := 16) dX4_narrow_14 (by decide) rfl ?_
    refine go_icmp_neN (tgt := 26) (q := 19) dX4_narrow_16 (by decide) rfl (by omega) (by omega) (fun h2 => ?_) (fun h2 => ?_)
    · skip
      refine go_lloadn1 (q := 27) dX4_narrow_26 rfl ?_
      exact go_lretE dX4_narrow_27 rfl (by unfold lowB; rw [if_neg h1, if_neg h2]) hQ
    · skip
      refine go_lloadn1 (q := 20) dX4_narrow_19 rfl ?_
      refine go_l2i (q := 21) dX4_narrow_20 rfl ?_
      refine go_i2s (q := 22) dX4_narrow_21 rfl ?_
      refine go_i2l (q := 23) dX4_narrow_22 rfl ?_
      refine go_goto (tgt := 27) dX4_narrow_23 (by decide) ?_
      exact go_lretE dX4_narrow_27 rfl (by unfold lowB; rw [if_neg h1, if_pos h2]) hQ
  · skip
    refine go_lloadn1 (q := 7) dX4_narrow_6 rfl ?_
    refine go_l2i (q := 8) dX4_narrow_7 rfl ?_
    refine go_i2b (q := 9) dX4_narrow_8 rfl ?_
    refine go_i2l (q := 10) dX4_narrow_9 rfl ?_
    refine go_goto (tgt := 27) dX4_narrow_10 (by decide) ?_
    exact go_lretE dX4_narrow_27 rfl (by unfold lowB; rw [if_pos h1]) hQ

set_option maxHeartbeats 4000000 in
set_option maxRecDepth 100000 in
theorem r_wants {S : St} {N : Nat → Nat → Int64} {X : St} {Y : Nat → Int64} {Q : Option Value → AH → Prop} {x : Int32} (hsh : ∀ t, t < 4 → okB (X 3 6 t) ∧ X 3 5 t ≤ 40) (hB : ¬ rg x 0 3 → Q (some (.int (-1000000001))) (hp S N X Y)) (hM : ∀ t, t < 4 → x = nI t → X 3 6 t = 0 → Q (some (.int (-1000000006))) (hp S N X Y)) (hO : ∀ t, t < 4 → x = nI t → X 3 6 t ≠ 0 → Q (some (.int (nI 0))) (hp S N X Y)) : Cn 2 yX4_wants cX4_wants 2 (some .int) [.ref 69, .int x] (hp S N X Y) Q := by
  refine cn_of (own := RX4) (lo := [some (.ref 69), some (.int x)]) 0 rfl (by decide +kernel) rfl (Nat.le_of_ble_eq_true rfl) ?_
  refine go_iloadn1 (q := 1) dX4_wants_0 rfl ?_
  refine go_is1_ (q := 4) dX4_wants_1 lk_X4_253 (by decide) (by decide) (Nat.le_of_ble_eq_true rfl) rfl (r_isSheet ?_)
  refine go_ifneB (tgt := 12) (q := 7) dX4_wants_4 (by decide) rfl (fun h1 => ?_) (fun h1 => ?_)
  · skip
    obtain ⟨t, ht3, rfl, -, -⟩ := rg_nat (n := 3) h1 (by omega) (by omega)
    have ht : t < 4 := by omega
    have hb := (hsh t ht).1
    have hl := (hsh t ht).2
    have hb64 : X 3 6 t ≤ 64 := by unfold okB at hb; omega
    refine go_aloadn0 (q := 13) dX4_wants_12 rfl ?_
    refine go_xg (q := 16) dX4_wants_13 fl_X4_25 rfl rfl ?_
    refine go_iloadn1 (q := 17) dX4_wants_16 rfl ?_
    refine go_xbld (q := 18) dX4_wants_17 ht rfl ?_
    refine go_if_ge (tgt := 27) (q := 21) dX4_wants_18 (by decide) rfl (fun h2 => ?_) (fun h2 => ?_)
    · skip
      refine go_iconstN (n := 0) (q := 28) dX4_wants_27 rfl ?_
      exact go_iret dX4_wants_28 rfl (hO t ht rfl ((bitI_ge hb64).mp h2))
    · skip
      refine go_ldcw (q := 24) dX4_wants_21 ko_X4_256 rfl ?_
      refine go_goto (tgt := 28) dX4_wants_24 (by decide) ?_
      exact go_iret dX4_wants_28 rfl (hM t ht rfl (Decidable.not_not.mp (fun w => h2 ((bitI_ge hb64).mpr w))))
  · skip
    refine go_ldc (q := 9) dX4_wants_7 ko_X4_42 rfl ?_
    refine go_goto (tgt := 28) dX4_wants_9 (by decide) ?_
    exact go_iret dX4_wants_28 rfl (hB h1)

set_option maxHeartbeats 4000000 in
set_option maxRecDepth 100000 in
theorem r_write {S : St} {N : Nat → Nat → Int64} {X : St} {Y : Nat → Int64} {Q : Option Value → AH → Prop} {x i : Int32} {v : Int64} (hsh : ∀ t, t < 4 → okB (X 3 6 t) ∧ X 3 5 t ≤ 40) (hB : ¬ rg x 0 3 → ∀ X', Xf X X' 0 → Q (some (.long (-1000000001 : Int32).toInt64)) (hp S N X' Y)) (hM : ∀ t, t < 4 → x = nI t → X 3 6 t = 0 → ∀ X', Xf X X' 5 → Q (some (.long (-1000000006 : Int32).toInt64)) (hp S N X' Y)) (hI : ∀ t, t < 4 → x = nI t → X 3 6 t ≠ 0 → ¬ rg i 0 ((X 3 5 t : Int) - 1) → ∀ X', Xf X X' 0 → Q (some (.long (-1000000001 : Int32).toInt64)) (hp S N X' Y)) (hO : ∀ t c, t < 4 → x = nI t → i = nI c → X 3 6 t ≠ 0 → c < X 3 5 t → c < 40 → Q (some (.long (Y (40 * t + c)))) (hp S N X (vp_updL Y (40 * t + c) (lowB (X 3 6 t) v)))) : Cn 3 yX4_write cX4_write 7 (some .long) [.ref 69, .int x, .int i, .long v] (hp S N X Y) Q := by
  refine cn_of (own := RX4) (lo := [some (.ref 69), some (.int x), some (.int i), some (.long v), none, none, none]) 2 rfl (by decide +kernel) rfl (Nat.le_of_ble_eq_true rfl) ?_
  refine go_iloadn1 (q := 1) dX4_write_0 rfl ?_
  refine go_is1_ (q := 4) dX4_write_1 lk_X4_253 (by decide) (by decide) (Nat.le_of_ble_eq_true rfl) rfl (r_isSheet ?_)
  refine go_ifneB (tgt := 15) (q := 7) dX4_write_4 (by decide) rfl (fun h1 => ?_) (fun h1 => ?_)
  · skip
    obtain ⟨t, ht3, rfl, -, -⟩ := rg_nat (n := 3) h1 (by omega) (by omega)
    have ht : t < 4 := by omega
    have hb := (hsh t ht).1
    have hl := (hsh t ht).2
    have hb64 : X 3 6 t ≤ 64 := by unfold okB at hb; omega
    refine go_aloadn0 (q := 16) dX4_write_15 rfl ?_
    refine go_xg (q := 19) dX4_write_16 fl_X4_25 rfl rfl ?_
    refine go_iloadn1 (q := 20) dX4_write_19 rfl ?_
    refine go_xbld (q := 21) dX4_write_20 ht rfl ?_
    refine go_if_ge (tgt := 33) (q := 24) dX4_write_21 (by decide) rfl (fun h2 => ?_) (fun h2 => ?_)
    · skip
      have hne := (bitI_ge hb64).mp h2
      refine go_iloadn2 (q := 34) dX4_write_33 rfl ?_
      refine go_i2l (q := 35) dX4_write_34 rfl ?_
      refine go_lconst (q := 36) dX4_write_35 rfl ?_
      refine go_aloadn0 (q := 37) dX4_write_36 rfl ?_
      refine go_xg (q := 40) dX4_write_37 fl_X4_28 rfl rfl ?_
      refine go_iloadn1 (q := 41) dX4_write_40 rfl ?_
      refine go_xzld (q := 42) dX4_write_41 ht rfl ?_
      refine go_iconstN (n := 1) (q := 43) dX4_write_42 rfl ?_
      refine go_isub (q := 44) dX4_write_43 rfl ?_
      refine go_i2l (q := 45) dX4_write_44 rfl ?_
      refine go_is3_ (q := 48) dX4_write_45 lk_X4_49 (by decide) (by decide) (Nat.le_of_ble_eq_true rfl) rfl (r_isIn (l := 0) (m := (X 3 5 t : Int) - 1) (by decide) (by rw [i64]; exact pk_sub_toInt (by omega) (by decide)) ?_)
      refine go_ifneB (tgt := 59) (q := 51) dX4_write_48 (by decide) rfl (fun h3 => ?_) (fun h3 => ?_)
      · skip
        obtain ⟨c, -, rfl, hc0, hc1⟩ := rg_nat (n := 40) h3 (by omega) (by omega)
        have hc : c < 40 := by omega
        refine go_aloadn0 (q := 60) dX4_write_59 rfl ?_
        refine go_xg (q := 63) dX4_write_60 fl_X4_31 rfl rfl ?_
        refine go_bipushN (v := 40) (q := 65) dX4_write_63 (by decide) rfl ?_
        refine go_iloadn1 (q := 66) dX4_write_65 rfl ?_
        refine go_imulN (q := 67) dX4_write_66 rfl ?_
        refine go_iloadn2 (q := 68) dX4_write_67 rfl ?_
        refine go_iaddN (q := 69) dX4_write_68 rfl ?_
        refine go_xlld (q := 70) dX4_write_69 (show 40 * t + c < 160 by omega) rfl ?_
        refine go_lstore5 (q := 72) dX4_write_70 rfl (by decide) rfl ?_
        refine go_aloadn0 (q := 73) dX4_write_72 rfl ?_
        refine go_xg (q := 76) dX4_write_73 fl_X4_31 rfl rfl ?_
        refine go_bipushN (v := 40) (q := 78) dX4_write_76 (by decide) rfl ?_
        refine go_iloadn1 (q := 79) dX4_write_78 rfl ?_
        refine go_imulN (q := 80) dX4_write_79 rfl ?_
        refine go_iloadn2 (q := 81) dX4_write_80 rfl ?_
        refine go_iaddN (q := 82) dX4_write_81 rfl ?_
        refine go_aloadn0 (q := 83) dX4_write_82 rfl ?_
        refine go_xg (q := 86) dX4_write_83 fl_X4_25 rfl rfl ?_
        refine go_iloadn1 (q := 87) dX4_write_86 rfl ?_
        refine go_xbld (q := 88) dX4_write_87 ht rfl ?_
        refine go_st (st' := [.int (nI (X 3 6 t)), .int (nI (40 * t + c)), .ref 77]) (by rw [show bitI (X 3 6 t) = nI (X 3 6 t) from if_neg hne]) ?_
        refine go_lloadn3 (q := 89) dX4_write_88 rfl ?_
        refine go_is2_ (q := 92) dX4_write_89 lk_X4_257 (by decide) (by decide) (Nat.le_of_ble_eq_true rfl) rfl (r_narrow hb64 ?_)
        refine go_xlst (q := 93) dX4_write_92 (show 40 * t + c < 160 by omega) rfl ?_
        refine go_lload5 (q := 95) dX4_write_93 rfl ?_
        exact go_lret dX4_write_95 rfl (hO t c ht rfl rfl hne (by omega) hc)
      · skip
        refine go_aloadn0 (q := 52) dX4_write_51 rfl ?_
        refine go_ldc (q := 54) dX4_write_52 ko_X4_42 rfl ?_
        refine go_ix1 (q := 57) dX4_write_54 lk_X4_57 (by decide) (by decide) (Nat.le_of_ble_eq_true rfl) rfl (r_finds (p := 0) (by decide) (by decide) ?_)
        refine go_i2l (q := 58) dX4_write_57 rfl ?_
        exact go_lret dX4_write_58 rfl (hI t ht rfl hne h3 _ (Xf.rf 0))
    · skip
      refine go_aloadn0 (q := 25) dX4_write_24 rfl ?_
      refine go_ldcw (q := 28) dX4_write_25 ko_X4_256 rfl ?_
      refine go_ix1 (q := 31) dX4_write_28 lk_X4_57 (by decide) (by decide) (Nat.le_of_ble_eq_true rfl) rfl (r_finds (p := 5) (by decide) (by decide) ?_)
      refine go_i2l (q := 32) dX4_write_31 rfl ?_
      exact go_lret dX4_write_32 rfl (hM t ht rfl (Decidable.not_not.mp (fun w => h2 ((bitI_ge hb64).mpr w))) _ (Xf.rf 5))
  · skip
    refine go_aloadn0 (q := 8) dX4_write_7 rfl ?_
    refine go_ldc (q := 10) dX4_write_8 ko_X4_42 rfl ?_
    refine go_ix1 (q := 13) dX4_write_10 lk_X4_57 (by decide) (by decide) (Nat.le_of_ble_eq_true rfl) rfl (r_finds (p := 0) (by decide) (by decide) ?_)
    refine go_i2l (q := 14) dX4_write_13 rfl ?_
    exact go_lret dX4_write_14 rfl (hB h1 _ (Xf.rf 0))
