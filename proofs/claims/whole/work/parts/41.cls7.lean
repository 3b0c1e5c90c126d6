theorem agN_13 (M : Mk) (n : Nat) : agN M n 13 0 = M 13 0 := by
  induction n with
  | zero => rfl
  | succ n ih => exact ((age1_13 _).1).trans ih

theorem ge0 {z : Int32} (h : 0 ≤ z) : 0 ≤ z.toInt := by
  rw [Int32.le_iff_toInt_le] at h
  exact h
theorem lt0 {z : Int32} (h : ¬ 0 ≤ z) : z.toInt < 0 := by
  rw [Int32.le_iff_toInt_le] at h
  exact Int.not_le.mp h
theorem lt0n {z : Int32} (h : z < 0) : z.toInt < 0 := by
  rw [Int32.lt_iff_toInt_lt] at h
  exact h
theorem ge0n {z : Int32} (h : ¬ z < 0) : 0 ≤ z.toInt := by
  rw [Int32.lt_iff_toInt_lt] at h
  exact Int.not_lt.mp h
theorem le40 {z : Int32} (h : z ≤ nI 40) : z.toInt ≤ 40 := by
  rw [Int32.le_iff_toInt_le] at h
  exact h
theorem le40n {z : Int32} (h : z.toInt ≤ 40) : z ≤ nI 40 := by
  rw [Int32.le_iff_toInt_le]
  exact h
theorem npl {v : Int64} (h : lg_cmp v (Int64.ofNat ((0 : Fin 2) : Nat)) < 0) : ¬ isP v := by
  rw [lg_cmp_lt, Int64.lt_iff_toInt_lt] at h
  have h0 : (Int64.ofNat ((0 : Fin 2) : Nat)).toInt = 0 := by decide
  intro z
  have := z.1
  omega
theorem npg {v : Int64} (h : 0 < lg_cmp v 99) : ¬ isP v := by
  rw [lg_cmp_gt, Int64.lt_iff_toInt_lt] at h
  have h0 : (99 : Int64).toInt = 99 := by decide
  intro z
  have := z.2
  omega
theorem isPof {v : Int64} (h5 : ¬ lg_cmp v (Int64.ofNat ((0 : Fin 2) : Nat)) < 0) (h6 : ¬ 0 < lg_cmp v 99) : isP v := by
  rw [lg_cmp_lt, Int64.lt_iff_toInt_lt] at h5
  rw [lg_cmp_gt, Int64.lt_iff_toInt_lt] at h6
  have h0 : (Int64.ofNat ((0 : Fin 2) : Nat)).toInt = 0 := by decide
  have h9 : (99 : Int64).toInt = 99 := by decide
  unfold isP
  omega

set_option maxHeartbeats 4000000 in
set_option maxRecDepth 100000 in
theorem c_sheet {S : St} {N : Nat → Nat → Int64} {X : St} {Y : Nat → Int64} {Q : Option Value → AH → Prop} {x b z : Int32} (hB : ¬ (rg x 0 3 ∧ (b = nI 0 ∨ b = nI 8 ∨ b = nI 16 ∨ b = nI 64)) → ∀ S', Cf S S' 0 → Q (some (.int (-1000000001))) (hp S' N X Y)) (hZ : (rg x 0 3 ∧ (b = nI 0 ∨ b = nI 8 ∨ b = nI 16 ∨ b = nI 64)) → z.toInt < 0 → ∀ S', Cf S S' 6 → Q (some (.int (-1000000007))) (hp S' N X Y)) (hL : (rg x 0 3 ∧ (b = nI 0 ∨ b = nI 8 ∨ b = nI 16 ∨ b = nI 64)) → ¬ z.toInt ≤ 40 → 0 ≤ z.toInt → ∀ S', Cf S S' 0 → Q (some (.int (-1000000001))) (hp S' N X Y)) (hO : ∀ t c n, t < 4 → okB c → n ≤ 40 → x = nI t → b = nI c → z = nI n → ∀ S', S' 6 = u2 (u2 (S 6) t 0 c) t 1 (if c = 0 then 0 else n) → (∀ a, a ≠ 6 → S' a = S a) → Q (some (.int (nI (if c = 0 then 0 else n)))) (hp S' (zN N t 40) X Y)) : Cn 3 yX3_sheet cX3_sheet 4 (some .int) [.ref 0, .int x, .int b, .int z] (hp S N X Y) Q := by
  refine cn_of (own := RX3) (lo := [some (.ref 0), some (.int x), some (.int b), some (.int z)]) 0 rfl (by decide +kernel) rfl (Nat.le_of_ble_eq_true rfl) ?_
  refine go_iloadn1 (q := 1) dX3_sheet_0 rfl ?_
  refine go_is1_ (q := 4) dX3_sheet_1 lk_X3_228 (by decide) (by decide) (Nat.le_of_ble_eq_true rfl) rfl (c_isSheet ?_)
  refine go_ifeqB (tgt := 29) (q := 7) dX3_sheet_4 (by decide) rfl (fun h1 => ?_) (fun h1 => ?_)
  · skip
    refine go_aloadn0 (q := 30) dX3_sheet_29 rfl ?_
    refine go_ldc (q := 32) dX3_sheet_30 ko_X3_55 rfl ?_
    refine go_ic1 (q := 35) dX3_sheet_32 lk_X3_56 (by decide) (by decide) (Nat.le_of_ble_eq_true rfl) rfl (c_finding (p := 0) (by decide) (by decide) ?_)
    exact go_iret dX3_sheet_35 rfl (hB (fun z => h1 z.1) _ (Cf.rf 0))
  · skip
    refine go_iloadn2 (q := 8) dX3_sheet_7 rfl ?_
    refine go_if_eq (tgt := 36) (q := 11) dX3_sheet_8 (by decide) rfl (fun h2 => ?_) (fun h2 => ?_)
    · skip
      obtain rfl : b = nI 0 := h2
      refine go_iloadn3 (q := 37) dX3_sheet_36 rfl ?_
      refine go_if_ge (tgt := 47) (q := 40) dX3_sheet_37 (by decide) rfl (fun h5 => ?_) (fun h5 => ?_)
      · skip
        refine go_iloadn3 (q := 48) dX3_sheet_47 rfl ?_
        refine go_bipushN (v := 40) (q := 50) dX3_sheet_48 (by decide) rfl ?_
        refine go_icmp_le (tgt := 60) (q := 53) dX3_sheet_50 (by decide) rfl (fun h6 => ?_) (fun h6 => ?_)
        · skip
          obtain ⟨n, hn, rfl, -, -⟩ := rg_nat (n := 40) (x := z) (l := 0) (h := 40) ⟨ge0 h5, le40 h6⟩ (by omega) (by omega)
          obtain ⟨t, ht, rfl, -, -⟩ := rg_nat (n := 3) h1 (by omega) (by omega)
          have ht : t < 4 := by omega
          refine go_aloadn0 (q := 61) dX3_sheet_60 rfl ?_
          refine go_cg (q := 64) dX3_sheet_61 fl_X3_34 rfl rfl ?_
          refine go_iloadn1 (q := 65) dX3_sheet_64 rfl ?_
          refine go_sal (q := 66) dX3_sheet_65 ht rfl ?_
          refine go_iloadn2 (q := 67) dX3_sheet_66 rfl ?_
          refine go_iloadn3 (q := 68) dX3_sheet_67 rfl ?_
          refine go_is2 (q := 71) dX3_sheet_68 lk_X3_231 (by decide) (by decide) (Nat.le_of_ble_eq_true rfl) ht rfl (c_begin ht (by omega) (fun S1 k1 k2 => ?_))
          exact go_iret dX3_sheet_71 rfl (hO t 0 n ht (by unfold okB; omega) (by omega) rfl rfl rfl _ k1 k2)
        · skip
          refine go_aloadn0 (q := 54) dX3_sheet_53 rfl ?_
          refine go_ldc (q := 56) dX3_sheet_54 ko_X3_55 rfl ?_
          refine go_ic1 (q := 59) dX3_sheet_56 lk_X3_56 (by decide) (by decide) (Nat.le_of_ble_eq_true rfl) rfl (c_finding (p := 0) (by decide) (by decide) ?_)
          exact go_iret dX3_sheet_59 rfl (hL ⟨h1, by simp⟩ (fun z => h6 (le40n z)) (ge0 h5) _ (Cf.rf 0))
      · skip
        refine go_aloadn0 (q := 41) dX3_sheet_40 rfl ?_
        refine go_ldc (q := 43) dX3_sheet_41 ko_X3_208 rfl ?_
        refine go_ic1 (q := 46) dX3_sheet_43 lk_X3_56 (by decide) (by decide) (Nat.le_of_ble_eq_true rfl) rfl (c_finding (p := 6) (by decide) (by decide) ?_)
        exact go_iret dX3_sheet_46 rfl (hZ ⟨h1, by simp⟩ (lt0 h5) _ (Cf.rf 6))
    · skip
      refine go_iloadn2 (q := 12) dX3_sheet_11 rfl ?_
      refine go_bipushN (v := 8) (q := 14) dX3_sheet_12 (by decide) rfl ?_
      refine go_icmp_eq (tgt := 36) (q := 17) dX3_sheet_14 (by decide) rfl (fun h3 => ?_) (fun h3 => ?_)
      · skip
        obtain rfl : b = nI 8 := h3
        refine go_iloadn3 (q := 37) dX3_sheet_36 rfl ?_
        refine go_if_ge (tgt := 47) (q := 40) dX3_sheet_37 (by decide) rfl (fun h5 => ?_) (fun h5 => ?_)
        · skip
          refine go_iloadn3 (q := 48) dX3_sheet_47 rfl ?_
          refine go_bipushN (v := 40) (q := 50) dX3_sheet_48 (by decide) rfl ?_
          refine go_icmp_le (tgt := 60) (q := 53) dX3_sheet_50 (by decide) rfl (fun h6 => ?_) (fun h6 => ?_)
          · skip
            obtain ⟨n, hn, rfl, -, -⟩ := rg_nat (n := 40) (x := z) (l := 0) (h := 40) ⟨ge0 h5, le40 h6⟩ (by omega) (by omega)
            obtain ⟨t, ht, rfl, -, -⟩ := rg_nat (n := 3) h1 (by omega) (by omega)
            have ht : t < 4 := by omega
            refine go_aloadn0 (q := 61) dX3_sheet_60 rfl ?_
            refine go_cg (q := 64) dX3_sheet_61 fl_X3_34 rfl rfl ?_
            refine go_iloadn1 (q := 65) dX3_sheet_64 rfl ?_
            refine go_sal (q := 66) dX3_sheet_65 ht rfl ?_
            refine go_iloadn2 (q := 67) dX3_sheet_66 rfl ?_
            refine go_iloadn3 (q := 68) dX3_sheet_67 rfl ?_
            refine go_is2 (q := 71) dX3_sheet_68 lk_X3_231 (by decide) (by decide) (Nat.le_of_ble_eq_true rfl) ht rfl (c_begin ht (by omega) (fun S1 k1 k2 => ?_))
            exact go_iret dX3_sheet_71 rfl (hO t 8 n ht (by unfold okB; omega) (by omega) rfl rfl rfl _ k1 k2)
          · skip
            refine go_aloadn0 (q := 54) dX3_sheet_53 rfl ?_
            refine go_ldc (q := 56) dX3_sheet_54 ko_X3_55 rfl ?_
            refine go_ic1 (q := 59) dX3_sheet_56 lk_X3_56 (by decide) (by decide) (Nat.le_of_ble_eq_true rfl) rfl (c_finding (p := 0) (by decide) (by decide) ?_)
            exact go_iret dX3_sheet_59 rfl (hL ⟨h1, by simp⟩ (fun z => h6 (le40n z)) (ge0 h5) _ (Cf.rf 0))
        · skip
          refine go_aloadn0 (q := 41) dX3_sheet_40 rfl ?_
          refine go_ldc (q := 43) dX3_sheet_41 ko_X3_208 rfl ?_
          refine go_ic1 (q := 46) dX3_sheet_43 lk_X3_56 (by decide) (by decide) (Nat.le_of_ble_eq_true rfl) rfl (c_finding (p := 6) (by decide) (by decide) ?_)
          exact go_iret dX3_sheet_46 rfl (hZ ⟨h1, by simp⟩ (lt0 h5) _ (Cf.rf 6))
      · skip
        refine go_iloadn2 (q := 18) dX3_sheet_17 rfl ?_
        refine go_bipushN (v := 16) (q := 20) dX3_sheet_18 (by decide) rfl ?_
        refine go_icmp_eq (tgt := 36) (q := 23) dX3_sheet_20 (by decide) rfl (fun h4 => ?_) (fun h4 => ?_)
        · skip
          obtain rfl : b = nI 16 := h4
          refine go_iloadn3 (q := 37) dX3_sheet_36 rfl ?_
          refine go_if_ge (tgt := 47) (q := 40) dX3_sheet_37 (by decide) rfl (fun h5 => ?_) (fun h5 => ?_)
          · skip
            refine go_iloadn3 (q := 48) dX3_sheet_47 rfl ?_
            refine go_bipushN (v := 40) (q := 50) dX3_sheet_48 (by decide) rfl ?_
            refine go_icmp_le (tgt := 60) (q := 53) dX3_sheet_50 (by decide) rfl (fun h6 => ?_) (fun h6 => ?_)
            · skip
              obtain ⟨n, hn, rfl, -, -⟩ := rg_nat (n := 40) (x := z) (l := 0) (h := 40) ⟨ge0 h5, le40 h6⟩ (by omega) (by omega)
              obtain ⟨t, ht, rfl, -, -⟩ := rg_nat (n := 3) h1 (by omega) (by omega)
              have ht : t < 4 := by omega
              refine go_aloadn0 (q := 61) dX3_sheet_60 rfl ?_
              refine go_cg (q := 64) dX3_sheet_61 fl_X3_34 rfl rfl ?_
              refine go_iloadn1 (q := 65) dX3_sheet_64 rfl ?_
              refine go_sal (q := 66) dX3_sheet_65 ht rfl ?_
              refine go_iloadn2 (q := 67) dX3_sheet_66 rfl ?_
              refine go_iloadn3 (q := 68) dX3_sheet_67 rfl ?_
              refine go_is2 (q := 71) dX3_sheet_68 lk_X3_231 (by decide) (by decide) (Nat.le_of_ble_eq_true rfl) ht rfl (c_begin ht (by omega) (fun S1 k1 k2 => ?_))
              exact go_iret dX3_sheet_71 rfl (hO t 16 n ht (by unfold okB; omega) (by omega) rfl rfl rfl _ k1 k2)
            · skip
              refine go_aloadn0 (q := 54) dX3_sheet_53 rfl ?_
              refine go_ldc (q := 56) dX3_sheet_54 ko_X3_55 rfl ?_
              refine go_ic1 (q := 59) dX3_sheet_56 lk_X3_56 (by decide) (by decide) (Nat.le_of_ble_eq_true rfl) rfl (c_finding (p := 0) (by decide) (by decide) ?_)
              exact go_iret dX3_sheet_59 rfl (hL ⟨h1, by simp⟩ (fun z => h6 (le40n z)) (ge0 h5) _ (Cf.rf 0))
          · skip
            refine go_aloadn0 (q := 41) dX3_sheet_40 rfl ?_
            refine go_ldc (q := 43) dX3_sheet_41 ko_X3_208 rfl ?_
            refine go_ic1 (q := 46) dX3_sheet_43 lk_X3_56 (by decide) (by decide) (Nat.le_of_ble_eq_true rfl) rfl (c_finding (p := 6) (by decide) (by decide) ?_)
            exact go_iret dX3_sheet_46 rfl (hZ ⟨h1, by simp⟩ (lt0 h5) _ (Cf.rf 6))
        · skip
          refine go_iloadn2 (q := 24) dX3_sheet_23 rfl ?_
          refine go_bipushN (v := 64) (q := 26) dX3_sheet_24 (by decide) rfl ?_
          refine go_icmp_eq (tgt := 36) (q := 29) dX3_sheet_26 (by decide) rfl (fun h7 => ?_) (fun h7 => ?_)
          · skip
            obtain rfl : b = nI 64 := h7
            refine go_iloadn3 (q := 37) dX3_sheet_36 rfl ?_
            refine go_if_ge (tgt := 47) (q := 40) dX3_sheet_37 (by decide) rfl (fun h5 => ?_) (fun h5 => ?_)
            · skip
              refine go_iloadn3 (q := 48) dX3_sheet_47 rfl ?_
              refine go_bipushN (v := 40) (q := 50) dX3_sheet_48 (by decide) rfl ?_
              refine go_icmp_le (tgt := 60) (q := 53) dX3_sheet_50 (by decide) rfl (fun h6 => ?_) (fun h6 => ?_)
              · skip
                obtain ⟨n, hn, rfl, -, -⟩ := rg_nat (n := 40) (x := z) (l := 0) (h := 40) ⟨ge0 h5, le40 h6⟩ (by omega) (by omega)
                obtain ⟨t, ht, rfl, -, -⟩ := rg_nat (n := 3) h1 (by omega) (by omega)
                have ht : t < 4 := by omega
                refine go_aloadn0 (q := 61) dX3_sheet_60 rfl ?_
                refine go_cg (q := 64) dX3_sheet_61 fl_X3_34 rfl rfl ?_
                refine go_iloadn1 (q := 65) dX3_sheet_64 rfl ?_
                refine go_sal (q := 66) dX3_sheet_65 ht rfl ?_
                refine go_iloadn2 (q := 67) dX3_sheet_66 rfl ?_
                refine go_iloadn3 (q := 68) dX3_sheet_67 rfl ?_
                refine go_is2 (q := 71) dX3_sheet_68 lk_X3_231 (by decide) (by decide) (Nat.le_of_ble_eq_true rfl) ht rfl (c_begin ht (by omega) (fun S1 k1 k2 => ?_))
                exact go_iret dX3_sheet_71 rfl (hO t 64 n ht (by unfold okB; omega) (by omega) rfl rfl rfl _ k1 k2)
              · skip
                refine go_aloadn0 (q := 54) dX3_sheet_53 rfl ?_
                refine go_ldc (q := 56) dX3_sheet_54 ko_X3_55 rfl ?_
                refine go_ic1 (q := 59) dX3_sheet_56 lk_X3_56 (by decide) (by decide) (Nat.le_of_ble_eq_true rfl) rfl (c_finding (p := 0) (by decide) (by decide) ?_)
                exact go_iret dX3_sheet_59 rfl (hL ⟨h1, by simp⟩ (fun z => h6 (le40n z)) (ge0 h5) _ (Cf.rf 0))
            · skip
              refine go_aloadn0 (q := 41) dX3_sheet_40 rfl ?_
              refine go_ldc (q := 43) dX3_sheet_41 ko_X3_208 rfl ?_
              refine go_ic1 (q := 46) dX3_sheet_43 lk_X3_56 (by decide) (by decide) (Nat.le_of_ble_eq_true rfl) rfl (c_finding (p := 6) (by decide) (by decide) ?_)
              exact go_iret dX3_sheet_46 rfl (hZ ⟨h1, by simp⟩ (lt0 h5) _ (Cf.rf 6))
          · skip
            refine go_aloadn0 (q := 30) dX3_sheet_29 rfl ?_
            refine go_ldc (q := 32) dX3_sheet_30 ko_X3_55 rfl ?_
            refine go_ic1 (q := 35) dX3_sheet_32 lk_X3_56 (by decide) (by decide) (Nat.le_of_ble_eq_true rfl) rfl (c_finding (p := 0) (by decide) (by decide) ?_)
            exact go_iret dX3_sheet_35 rfl (hB (fun z => by rcases z.2 with q | q | q | q; exact h2 q; exact h3 q; exact h4 q; exact h7 q) _ (Cf.rf 0))

set_option maxHeartbeats 4000000 in
set_option maxRecDepth 100000 in
theorem c_write {S : St} {N : Nat → Nat → Int64} {X : St} {Y : Nat → Int64} {Q : Option Value → AH → Prop} {x i : Int32} {v : Int64} (hsh : ∀ t, t < 4 → okB (S 6 t 0) ∧ S 6 t 1 ≤ 40) (hB : ¬ rg x 0 3 → ∀ S', Cf S S' 0 → Q (some (.long (-1000000001 : Int32).toInt64)) (hp S' N X Y)) (hM : ∀ t, t < 4 → x = nI t → S 6 t 0 = 0 → ∀ S', Cf S S' 5 → Q (some (.long (-1000000006 : Int32).toInt64)) (hp S' N X Y)) (hI : ∀ t, t < 4 → x = nI t → S 6 t 0 ≠ 0 → ¬ rg i 0 ((S 6 t 1 : Int) - 1) → ∀ S', Cf S S' 0 → Q (some (.long (-1000000001 : Int32).toInt64)) (hp S' N X Y)) (hO : ∀ t c, t < 4 → x = nI t → i = nI c → S 6 t 0 ≠ 0 → c < S 6 t 1 → c < 40 → Q (some (.long (N t c))) (hp S (uN2 N t c (lowB (S 6 t 0) v)) X Y)) : Cn 3 yX3_write cX3_write 8 (some .long) [.ref 0, .int x, .int i, .long v] (hp S N X Y) Q := by
  refine cn_of (own := RX3) (lo := [some (.ref 0), some (.int x), some (.int i), some (.long v), none, none, none, none]) 3 rfl (by decide +kernel) rfl (Nat.le_of_ble_eq_true rfl) ?_
  refine go_iloadn1 (q := 1) dX3_write_0 rfl ?_
  refine go_is1_ (q := 4) dX3_write_1 lk_X3_228 (by decide) (by decide) (Nat.le_of_ble_eq_true rfl) rfl (c_isSheet ?_)
  refine go_ifneB (tgt := 15) (q := 7) dX3_write_4 (by decide) rfl (fun h1 => ?_) (fun h1 => ?_)
  · skip
    obtain ⟨t, ht, rfl, -, -⟩ := rg_nat (n := 3) h1 (by omega) (by omega)
    have ht : t < 4 := by omega
    have hb := (hsh t ht).1
    have hl := (hsh t ht).2
    have hb64 : S 6 t 0 ≤ 64 := by unfold okB at hb; omega
    refine go_aloadn0 (q := 16) dX3_write_15 rfl ?_
    refine go_cg (q := 19) dX3_write_16 fl_X3_34 rfl rfl ?_
    refine go_iloadn1 (q := 20) dX3_write_19 rfl ?_
    refine go_sal (q := 21) dX3_write_20 ht rfl ?_
    refine go_astore5 (q := 23) dX3_write_21 rfl (by decide) rfl ?_
    refine go_aload5 (q := 25) dX3_write_23 rfl ?_
    refine go_is0 (q := 28) dX3_write_25 lk_X3_234 (by decide) (by decide) (Nat.le_of_ble_eq_true rfl) ht rfl (c_isMissing ht hb64 ?_)
    refine go_ifeqB (tgt := 39) (q := 31) dX3_write_28 (by decide) rfl (fun h2 => ?_) (fun h2 => ?_)
    · skip
      refine go_iloadn2 (q := 40) dX3_write_39 rfl ?_
      refine go_iconstN (n := 0) (q := 41) dX3_write_40 rfl ?_
      refine go_aload5 (q := 43) dX3_write_41 rfl ?_
      refine go_sg (q := 46) dX3_write_43 fl_X3_238 ht rfl rfl ?_
      refine go_iconstN (n := 1) (q := 47) dX3_write_46 rfl ?_
      refine go_isub (q := 48) dX3_write_47 rfl ?_
      refine go_is3_ (q := 51) dX3_write_48 lk_X3_51 (by decide) (by decide) (Nat.le_of_ble_eq_true rfl) rfl (c_isWithin (l := 0) (m := (S 6 t 1 : Int) - 1) (by decide) (pk_sub_toInt (by omega) (by decide)) ?_)
      refine go_ifneB (tgt := 62) (q := 54) dX3_write_51 (by decide) rfl (fun h3 => ?_) (fun h3 => ?_)
      · skip
        obtain ⟨c, -, rfl, hc0, hc1⟩ := rg_nat (n := 40) h3 (by omega) (by omega)
        have hc : c < 40 := by omega
        refine go_aload5 (q := 64) dX3_write_62 rfl ?_
        refine go_sg (q := 67) dX3_write_64 fl_X3_239 ht rfl rfl ?_
        refine go_iloadn2 (q := 68) dX3_write_67 rfl ?_
        refine go_sld (q := 69) dX3_write_68 ht hc rfl ?_
        refine go_lstore6 (q := 71) dX3_write_69 rfl (by decide) rfl ?_
        refine go_aload5 (q := 73) dX3_write_71 rfl ?_
        refine go_iloadn2 (q := 74) dX3_write_73 rfl ?_
        refine go_lloadn3 (q := 75) dX3_write_74 rfl ?_
        refine go_is2 (q := 78) dX3_write_75 lk_X3_243 (by decide) (by decide) (Nat.le_of_ble_eq_true rfl) ht rfl (c_put ht hc hb ?_)
        refine go_lload6 (q := 80) dX3_write_78 rfl ?_
        exact go_lret dX3_write_80 rfl (hO t c ht rfl rfl h2 (by omega) hc)
      · skip
        refine go_aloadn0 (q := 55) dX3_write_54 rfl ?_
        refine go_ldc (q := 57) dX3_write_55 ko_X3_55 rfl ?_
        refine go_ic1 (q := 60) dX3_write_57 lk_X3_56 (by decide) (by decide) (Nat.le_of_ble_eq_true rfl) rfl (c_finding (p := 0) (by decide) (by decide) ?_)
        refine go_i2l (q := 61) dX3_write_60 rfl ?_
        exact go_lret dX3_write_61 rfl (hI t ht rfl h2 h3 _ (Cf.rf 0))
    · skip
      refine go_aloadn0 (q := 32) dX3_write_31 rfl ?_
      refine go_ldc (q := 34) dX3_write_32 ko_X3_237 rfl ?_
      refine go_ic1 (q := 37) dX3_write_34 lk_X3_56 (by decide) (by decide) (Nat.le_of_ble_eq_true rfl) rfl (c_finding (p := 5) (by decide) (by decide) ?_)
      refine go_i2l (q := 38) dX3_write_37 rfl ?_
      exact go_lret dX3_write_38 rfl (hM t ht rfl h2 _ (Cf.rf 5))
  · skip
    refine go_aloadn0 (q := 8) dX3_write_7 rfl ?_
    refine go_ldc (q := 10) dX3_write_8 ko_X3_55 rfl ?_
    refine go_ic1 (q := 13) dX3_write_10 lk_X3_56 (by decide) (by decide) (Nat.le_of_ble_eq_true rfl) rfl (c_finding (p := 0) (by decide) (by decide) ?_)
    refine go_i2l (q := 14) dX3_write_13 rfl ?_
    exact go_lret dX3_write_14 rfl (hB h1 _ (Cf.rf 0))

set_option maxHeartbeats 4000000 in
set_option maxRecDepth 100000 in
theorem c_copy {S : St} {N : Nat → Nat → Int64} {X : St} {Y : Nat → Int64} {Q : Option Value → AH → Prop} {x f y g z : Int32} (hsh : ∀ t, t < 4 → okB (S 6 t 0) ∧ S 6 t 1 ≤ 40) (hB : ¬ (rg x 0 3 ∧ rg y 0 3) → ∀ S', Cf S S' 0 → Q (some (.int (-1000000001))) (hp S' N X Y)) (hM : ∀ t u, t < 4 → u < 4 → x = nI t → y = nI u → ¬ (S 6 t 0 ≠ 0 ∧ S 6 u 0 ≠ 0) → ∀ S', Cf S S' 5 → Q (some (.int (-1000000006))) (hp S' N X Y)) (hK : ∀ t u, t < 4 → u < 4 → x = nI t → y = nI u → (S 6 t 0 ≠ 0 ∧ S 6 u 0 ≠ 0) → S 6 t 0 ≠ S 6 u 0 → ∀ S', Cf S S' 2 → Q (some (.int (-1000000003))) (hp S' N X Y)) (hL : ∀ t u, t < 4 → u < 4 → x = nI t → y = nI u → (S 6 t 0 ≠ 0 ∧ S 6 u 0 ≠ 0) → S 6 t 0 = S 6 u 0 → ¬ (hrn (S 6 t 1) f z ∧ hrn (S 6 u 1) g z) → ∀ S', Cf S S' 0 → Q (some (.int (-1000000001))) (hp S' N X Y)) (hO : ∀ t u, t < 4 → u < 4 → x = nI t → y = nI u → (S 6 t 0 ≠ 0 ∧ S 6 u 0 ≠ 0) → S 6 t 0 = S 6 u 0 → ∀ a b n, f = nI a → g = nI b → z = nI n → a + n ≤ S 6 t 1 → b + n ≤ S 6 u 1 → Q (some (.int (nI n))) (hp S (cpN N t u a b n) X Y)) : Cn 3 yX3_copy cX3_copy 8 (some .int) [.ref 0, .int x, .int f, .int y, .int g, .int z] (hp S N X Y) Q := by
  refine cn_of (own := RX3) (lo := [some (.ref 0), some (.int x), some (.int f), some (.int y), some (.int g), some (.int z), none, none]) 2 rfl (by decide +kernel) rfl (Nat.le_of_ble_eq_true rfl) ?_
  refine go_iloadn1 (q := 1) dX3_copy_0 rfl ?_
  refine go_is1_ (q := 4) dX3_copy_1 lk_X3_228 (by decide) (by decide) (Nat.le_of_ble_eq_true rfl) rfl (c_isSheet ?_)
  refine go_ifeqB (tgt := 14) (q := 7) dX3_copy_4 (by decide) rfl (fun h1 => ?_) (fun h1 => ?_)
  · skip
    refine go_aloadn0 (q := 15) dX3_copy_14 rfl ?_
    refine go_ldc (q := 17) dX3_copy_15 ko_X3_55 rfl ?_
    refine go_ic1 (q := 20) dX3_copy_17 lk_X3_56 (by decide) (by decide) (Nat.le_of_ble_eq_true rfl) rfl (c_finding (p := 0) (by decide) (by decide) ?_)
    exact go_iret dX3_copy_20 rfl (hB (fun z => h1 z.1) _ (Cf.rf 0))
  · skip
    refine go_iloadn3 (q := 8) dX3_copy_7 rfl ?_
    refine go_is1_ (q := 11) dX3_copy_8 lk_X3_228 (by decide) (by decide) (Nat.le_of_ble_eq_true rfl) rfl (c_isSheet ?_)
    refine go_ifneB (tgt := 21) (q := 14) dX3_copy_11 (by decide) rfl (fun h2 => ?_) (fun h2 => ?_)
    · skip
      obtain ⟨t, ht, rfl, -, -⟩ := rg_nat (n := 3) h1 (by omega) (by omega)
      have ht : t < 4 := by omega
      have hb := (hsh t ht).1
      have hl := (hsh t ht).2
      have hb64 : S 6 t 0 ≤ 64 := by unfold okB at hb; omega
      obtain ⟨u, hu, rfl, -, -⟩ := rg_nat (n := 3) h2 (by omega) (by omega)
      have hu : u < 4 := by omega
      have hbu := (hsh u hu).1
      have hlu := (hsh u hu).2
      have hbu64 : S 6 u 0 ≤ 64 := by unfold okB at hbu; omega
      refine go_aloadn0 (q := 22) dX3_copy_21 rfl ?_
      refine go_cg (q := 25) dX3_copy_22 fl_X3_34 rfl rfl ?_
      refine go_iloadn1 (q := 26) dX3_copy_25 rfl ?_
      refine go_sal (q := 27) dX3_copy_26 ht rfl ?_
      refine go_astore6 (q := 29) dX3_copy_27 rfl (by decide) rfl ?_
      refine go_aloadn0 (q := 30) dX3_copy_29 rfl ?_
      refine go_cg (q := 33) dX3_copy_30 fl_X3_34 rfl rfl ?_
      refine go_iloadn3 (q := 34) dX3_copy_33 rfl ?_
      refine go_sal (q := 35) dX3_copy_34 hu rfl ?_
      refine go_astore7 (q := 37) dX3_copy_35 rfl (by decide) rfl ?_
      refine go_aload6 (q := 39) dX3_copy_37 rfl ?_
      refine go_is0 (q := 42) dX3_copy_39 lk_X3_234 (by decide) (by decide) (Nat.le_of_ble_eq_true rfl) ht rfl (c_isMissing ht hb64 ?_)
      refine go_ifneB (tgt := 53) (q := 45) dX3_copy_42 (by decide) rfl (fun h3 => ?_) (fun h3 => ?_)
      · skip
        refine go_aloadn0 (q := 54) dX3_copy_53 rfl ?_
        refine go_ldc (q := 56) dX3_copy_54 ko_X3_237 rfl ?_
        refine go_ic1 (q := 59) dX3_copy_56 lk_X3_56 (by decide) (by decide) (Nat.le_of_ble_eq_true rfl) rfl (c_finding (p := 5) (by decide) (by decide) ?_)
        exact go_iret dX3_copy_59 rfl (hM t u ht hu rfl rfl (fun z => z.1 h3) _ (Cf.rf 5))
      · skip
        refine go_aload7 (q := 47) dX3_copy_45 rfl ?_
        refine go_is0 (q := 50) dX3_copy_47 lk_X3_234 (by decide) (by decide) (Nat.le_of_ble_eq_true rfl) hu rfl (c_isMissing hu hbu64 ?_)
        refine go_ifeqB (tgt := 60) (q := 53) dX3_copy_50 (by decide) rfl (fun h4 => ?_) (fun h4 => ?_)
        · skip
          refine go_aload6 (q := 62) dX3_copy_60 rfl ?_
          refine go_sg (q := 65) dX3_copy_62 fl_X3_247 ht rfl rfl ?_
          refine go_aload7 (q := 67) dX3_copy_65 rfl ?_
          refine go_sg (q := 70) dX3_copy_67 fl_X3_247 hu rfl rfl ?_
          refine go_icmp_eqN (tgt := 80) (q := 73) dX3_copy_70 (by decide) rfl (by omega) (by omega) (fun h5 => ?_) (fun h5 => ?_)
          · skip
            refine go_aload6 (q := 82) dX3_copy_80 rfl ?_
            refine go_iloadn2 (q := 83) dX3_copy_82 rfl ?_
            refine go_iload5 (q := 85) dX3_copy_83 rfl ?_
            refine go_is2 (q := 88) dX3_copy_85 lk_X3_250 (by decide) (by decide) (Nat.le_of_ble_eq_true rfl) ht rfl (c_hasRun ht hl ?_)
            refine go_ifeqB (tgt := 103) (q := 91) dX3_copy_88 (by decide) rfl (fun h6 => ?_) (fun h6 => ?_)
            · skip
              refine go_aloadn0 (q := 104) dX3_copy_103 rfl ?_
              refine go_ldc (q := 106) dX3_copy_104 ko_X3_55 rfl ?_
              refine go_ic1 (q := 109) dX3_copy_106 lk_X3_56 (by decide) (by decide) (Nat.le_of_ble_eq_true rfl) rfl (c_finding (p := 0) (by decide) (by decide) ?_)
              exact go_iret dX3_copy_109 rfl (hL t u ht hu rfl rfl ⟨h3, h4⟩ h5 (fun z => h6 z.1) _ (Cf.rf 0))
            · skip
              refine go_aload7 (q := 93) dX3_copy_91 rfl ?_
              refine go_iload4 (q := 95) dX3_copy_93 rfl ?_
              refine go_iload5 (q := 97) dX3_copy_95 rfl ?_
              refine go_is2 (q := 100) dX3_copy_97 lk_X3_250 (by decide) (by decide) (Nat.le_of_ble_eq_true rfl) hu rfl (c_hasRun hu hlu ?_)
              refine go_ifneB (tgt := 110) (q := 103) dX3_copy_100 (by decide) rfl (fun h7 => ?_) (fun h7 => ?_)
              · skip
                obtain ⟨a, ha31, rfl, -, -⟩ := rg_nat (n := 40) (x := f) (l := 0) (h := 40) ⟨h6.1, by have := h6.2; omega⟩ (by omega) (by omega)
                obtain ⟨b, hb31, rfl, -, -⟩ := rg_nat (n := 40) (x := g) (l := 0) (h := 40) ⟨h7.1, by have := h7.2; omega⟩ (by omega) (by omega)
                obtain ⟨n, hn, rfl, -, -⟩ := rg_nat (n := 40) (x := z) (l := 0) (h := 40) ⟨h7.2.1, by have := h7.2; have := h7.1; omega⟩ (by omega) (by omega)
                refine go_aload6 (q := 112) dX3_copy_110 rfl ?_
                refine go_sg (q := 115) dX3_copy_112 fl_X3_239 ht rfl rfl ?_
                refine go_iloadn2 (q := 116) dX3_copy_115 rfl ?_
                refine go_aload7 (q := 118) dX3_copy_116 rfl ?_
                refine go_sg (q := 121) dX3_copy_118 fl_X3_239 hu rfl rfl ?_
                refine go_iload4 (q := 123) dX3_copy_121 rfl ?_
                refine go_iload5 (q := 125) dX3_copy_123 rfl ?_
                have hA0 := h6.2.2
                have hB0 := h7.2.2
                rw [nI_toInt (show a < 2 ^ 31 by omega), nI_toInt (by omega)] at hA0
                rw [nI_toInt (show b < 2 ^ 31 by omega), nI_toInt (by omega)] at hB0
                have hA : a + n ≤ 40 := by omega
                have hB2 : b + n ≤ 40 := by omega
                refine go_scopy (q := 128) dX3_copy_125 la_X3_253 ht hu hA hB2 (by decide) (Nat.le_of_ble_eq_true rfl) rfl ?_
                refine go_iload5 (q := 130) dX3_copy_128 rfl ?_
                exact go_iret dX3_copy_130 rfl (hO t u ht hu rfl rfl ⟨h3, h4⟩ h5 a b n rfl rfl rfl (by omega) (by omega))
              · skip
                refine go_aloadn0 (q := 104) dX3_copy_103 rfl ?_
                refine go_ldc (q := 106) dX3_copy_104 ko_X3_55 rfl ?_
                refine go_ic1 (q := 109) dX3_copy_106 lk_X3_56 (by decide) (by decide) (Nat.le_of_ble_eq_true rfl) rfl (c_finding (p := 0) (by decide) (by decide) ?_)
                exact go_iret dX3_copy_109 rfl (hL t u ht hu rfl rfl ⟨h3, h4⟩ h5 (fun z => h7 z.2) _ (Cf.rf 0))
          · skip
            refine go_aloadn0 (q := 74) dX3_copy_73 rfl ?_
            refine go_ldc (q := 76) dX3_copy_74 ko_X3_114 rfl ?_
            refine go_ic1 (q := 79) dX3_copy_76 lk_X3_56 (by decide) (by decide) (Nat.le_of_ble_eq_true rfl) rfl (c_finding (p := 2) (by decide) (by decide) ?_)
            exact go_iret dX3_copy_79 rfl (hK t u ht hu rfl rfl ⟨h3, h4⟩ h5 _ (Cf.rf 2))
        · skip
          refine go_aloadn0 (q := 54) dX3_copy_53 rfl ?_
          refine go_ldc (q := 56) dX3_copy_54 ko_X3_237 rfl ?_
          refine go_ic1 (q := 59) dX3_copy_56 lk_X3_56 (by decide) (by decide) (Nat.le_of_ble_eq_true rfl) rfl (c_finding (p := 5) (by decide) (by decide) ?_)
          exact go_iret dX3_copy_59 rfl (hM t u ht hu rfl rfl (fun z => z.2 h4) _ (Cf.rf 5))
    · skip
      refine go_aloadn0 (q := 15) dX3_copy_14 rfl ?_
      refine go_ldc (q := 17) dX3_copy_15 ko_X3_55 rfl ?_
      refine go_ic1 (q := 20) dX3_copy_17 lk_X3_56 (by decide) (by decide) (Nat.le_of_ble_eq_true rfl) rfl (c_finding (p := 0) (by decide) (by decide) ?_)
      exact go_iret dX3_copy_20 rfl (hB (fun z => h2 z.2) _ (Cf.rf 0))

set_option maxHeartbeats 4000000 in
set_option maxRecDepth 100000 in
theorem c_lays_40 {S : St} {N : Nat → Nat → Int64} {X : St} {Y : Nat → Int64} {Q : Option Value → AH → Prop} {t : Nat} {x : Int32} (hw : WF (S 0)) (ht : t < 4) (hl : S 6 t 1 ≤ 40) (hO : ∀ S', Cc S S' (layM (S 0) (N t) (min (S 6 t 1) 12)) → Q (some (.int (nI (layN (N t) (min (S 6 t 1) 12))))) (hp S' N X Y)) : ∀ (fu : Nat) (c a : Nat) (S1 : St), min (S 6 t 1) 12 - c < fu → (c ≤ min (S 6 t 1) 12) → (Ch S S1 0 (layM (S 0) (N t) c)) → (layN (N t) c = a) → Go 3 RX3 cX3_lays 7 (some .int) 40 [some (.ref 0), some (.int x), some (.ref (so t)), some (.int (nI a)), some (.int (nI c)), none, none] [] (hp S1 N X Y) Q := by
  intro fu
  induction fu with
  | zero => intro c a S1 hfu; exact absurd hfu (Nat.not_lt_zero _)
  | succ fu ih =>
    intro c a S1 hfu hc g1 ha
    have e6 : S1 6 = S 6 := g1.2 6 (by decide) (by decide)
    refine go_iload4 (q := 42) dX3_lays_40 rfl ?_
    refine go_aloadn2 (q := 43) dX3_lays_42 rfl ?_
    refine go_sg (q := 46) dX3_lays_43 fl_X3_238 ht rfl rfl ?_
    rw [e6]
    refine go_icmp_geN (tgt := 103) (q := 49) dX3_lays_46 (by decide) rfl (by omega) (by omega) (fun h3 => ?_) (fun h3 => ?_)
    · skip
      refine go_iloadn3 (q := 104) dX3_lays_103 rfl ?_
      exact go_iretN dX3_lays_104 rfl (by rw [← ha, show c = min (S 6 t 1) 12 by omega]) (hO _ (by rw [show min (S 6 t 1) 12 = c by omega]; exact g1.here))
    · skip
      refine go_iload4 (q := 51) dX3_lays_49 rfl ?_
      refine go_bipushN (v := 12) (q := 53) dX3_lays_51 (by decide) rfl ?_
      refine go_icmp_geN (tgt := 103) (q := 56) dX3_lays_53 (by decide) rfl (by omega) (by omega) (fun h4 => ?_) (fun h4 => ?_)
      · skip
        refine go_iloadn3 (q := 104) dX3_lays_103 rfl ?_
        exact go_iretN dX3_lays_104 rfl (by rw [← ha, show c = min (S 6 t 1) 12 by omega]) (hO _ (by rw [show min (S 6 t 1) 12 = c by omega]; exact g1.here))
      · skip
        refine go_aloadn2 (q := 57) dX3_lays_56 rfl ?_
        refine go_sg (q := 60) dX3_lays_57 fl_X3_239 ht rfl rfl ?_
        refine go_iload4 (q := 62) dX3_lays_60 rfl ?_
        refine go_sld (q := 63) dX3_lays_62 ht (by omega) rfl ?_
        refine go_lstore5 (q := 65) dX3_lays_63 rfl (by decide) rfl ?_
        refine go_lload5 (q := 67) dX3_lays_65 rfl ?_
        refine go_lconst (q := 68) dX3_lays_67 rfl ?_
        refine go_lcmp (q := 69) dX3_lays_68 rfl ?_
        refine go_if_lt (tgt := 97) (q := 72) dX3_lays_69 (by decide) rfl (fun h5 => ?_) (fun h5 => ?_)
        · skip
          refine go_iincN4 (n := 1) (q := 100) dX3_lays_97 rfl (by decide) rfl ?_
          refine go_goto (tgt := 40) dX3_lays_100 (by decide) ?_
          refine go_forget (lo' := [some (.ref 0), some (.int x), some (.ref (so t)), some (.int (nI a)), some (.int (nI (c + 1))), none, none]) (fun i v hi => by match i, hi with | 0, h => exact h | 1, h => exact h | 2, h => exact h | 3, h => exact h | 4, h => exact h | 5, h => cases h | 6, h => cases h) ?_
          exact ih (c + 1) a S1 (by omega) (by omega) (g1.to (layM_no (fun z => npl h5 z)).symm) (by unfold layN; rw [sm_s, if_neg (fun z => npl h5 z), Nat.add_zero]; exact ha)
        · skip
          refine go_lload5 (q := 74) dX3_lays_72 rfl ?_
          refine go_ldc2 (q := 77) dX3_lays_74 ko_X3_259 rfl ?_
          refine go_lcmp (q := 78) dX3_lays_77 rfl ?_
          refine go_if_gt (tgt := 97) (q := 81) dX3_lays_78 (by decide) rfl (fun h6 => ?_) (fun h6 => ?_)
          · skip
            refine go_iincN4 (n := 1) (q := 100) dX3_lays_97 rfl (by decide) rfl ?_
            refine go_goto (tgt := 40) dX3_lays_100 (by decide) ?_
            refine go_forget (lo' := [some (.ref 0), some (.int x), some (.ref (so t)), some (.int (nI a)), some (.int (nI (c + 1))), none, none]) (fun i v hi => by match i, hi with | 0, h => exact h | 1, h => exact h | 2, h => exact h | 3, h => exact h | 4, h => exact h | 5, h => cases h | 6, h => cases h) ?_
            exact ih (c + 1) a S1 (by omega) (by omega) (g1.to (layM_no (fun z => npg h6 z)).symm) (by unfold layN; rw [sm_s, if_neg (fun z => npg h6 z), Nat.add_zero]; exact ha)
          · skip
            have hP : isP (N t c) := isPof h5 h6
            refine go_aloadn0 (q := 82) dX3_lays_81 rfl ?_
            refine go_cg (q := 85) dX3_lays_82 fl_X3_10 rfl rfl ?_
            refine go_mg (q := 88) dX3_lays_85 fl_X3_63 (by decide) rfl rfl ?_
            refine go_iload4 (q := 90) dX3_lays_88 rfl ?_
            refine go_lload5 (q := 92) dX3_lays_90 rfl ?_
            refine go_l2i (q := 93) dX3_lays_92 rfl ?_
            refine go_st (st' := [.int (nI (N t c).toInt.toNat), .int (nI c), .ref (mr 0 5)]) (by rw [l2i_p hP]) ?_
            refine go_mst (q := 94) dX3_lays_93 (by decide) (by decide) (show c < 12 by omega) rfl ?_
            refine go_iincN3 (n := 1) (q := 97) dX3_lays_94 rfl (by decide) rfl ?_
            refine go_iincN4 (n := 1) (q := 100) dX3_lays_97 rfl (by decide) rfl ?_
            refine go_goto (tgt := 40) dX3_lays_100 (by decide) ?_
            refine go_forget (lo' := [some (.ref 0), some (.int x), some (.ref (so t)), some (.int (nI (a + 1))), some (.int (nI (c + 1))), none, none]) (fun i v hi => by match i, hi with | 0, h => exact h | 1, h => exact h | 2, h => exact h | 3, h => exact h | 4, h => exact h | 5, h => cases h | 6, h => cases h) ?_
            exact ih (c + 1) (a + 1) _ (by omega) (by omega) ((g1.u 5 c _).to (layM_yes hP).symm) (by unfold layN; rw [sm_s, if_pos hP]; exact congrArg (· + 1) ha)

set_option maxHeartbeats 4000000 in
set_option maxRecDepth 100000 in
theorem c_lays {S : St} {N : Nat → Nat → Int64} {X : St} {Y : Nat → Int64} {Q : Option Value → AH → Prop} {x : Int32} (hw : WF (S 0)) (hsh : ∀ t, t < 4 → okB (S 6 t 0) ∧ S 6 t 1 ≤ 40) (hB : ¬ rg x 0 3 → ∀ S', Cf S S' 0 → Q (some (.int (-1000000001))) (hp S' N X Y)) (hM : ∀ t, t < 4 → x = nI t → S 6 t 0 = 0 → ∀ S', Cf S S' 5 → Q (some (.int (-1000000006))) (hp S' N X Y)) (hO : ∀ t, t < 4 → x = nI t → S 6 t 0 ≠ 0 → ∀ S', Cc S S' (layM (S 0) (N t) (min (S 6 t 1) 12)) → Q (some (.int (nI (layN (N t) (min (S 6 t 1) 12))))) (hp S' N X Y)) : Cn 3 yX3_lays cX3_lays 7 (some .int) [.ref 0, .int x] (hp S N X Y) Q := by
  refine cn_of (own := RX3) (lo := [some (.ref 0), some (.int x), none, none, none, none, none]) 5 rfl (by decide +kernel) rfl (Nat.le_of_ble_eq_true rfl) ?_
  refine go_iloadn1 (q := 1) dX3_lays_0 rfl ?_
  refine go_is1_ (q := 4) dX3_lays_1 lk_X3_228 (by decide) (by decide) (Nat.le_of_ble_eq_true rfl) rfl (c_isSheet ?_)
  refine go_ifneB (tgt := 14) (q := 7) dX3_lays_4 (by decide) rfl (fun h1 => ?_) (fun h1 => ?_)
  · skip
    obtain ⟨t, ht, rfl, -, -⟩ := rg_nat (n := 3) h1 (by omega) (by omega)
    have ht : t < 4 := by omega
    have hb := (hsh t ht).1
    have hl := (hsh t ht).2
    have hb64 : S 6 t 0 ≤ 64 := by unfold okB at hb; omega
    refine go_aloadn0 (q := 15) dX3_lays_14 rfl ?_
    refine go_cg (q := 18) dX3_lays_15 fl_X3_34 rfl rfl ?_
    refine go_iloadn1 (q := 19) dX3_lays_18 rfl ?_
    refine go_sal (q := 20) dX3_lays_19 ht rfl ?_
    refine go_astoren2 (q := 21) dX3_lays_20 rfl (by decide) rfl ?_
    refine go_aloadn2 (q := 22) dX3_lays_21 rfl ?_
    refine go_is0 (q := 25) dX3_lays_22 lk_X3_234 (by decide) (by decide) (Nat.le_of_ble_eq_true rfl) ht rfl (c_isMissing ht hb64 ?_)
    refine go_ifeqB (tgt := 35) (q := 28) dX3_lays_25 (by decide) rfl (fun h2 => ?_) (fun h2 => ?_)
    · skip
      refine go_iconstN (n := 0) (q := 36) dX3_lays_35 rfl ?_
      refine go_istoren3 (q := 37) dX3_lays_36 rfl (by decide) rfl ?_
      refine go_iconstN (n := 0) (q := 38) dX3_lays_37 rfl ?_
      refine go_istore4 (q := 40) dX3_lays_38 rfl (by decide) rfl ?_
      exact c_lays_40 hw ht hl (hO t ht rfl h2) (min (S 6 t 1) 12 + 1) 0 0 S (by omega) (by omega) (by rw [layM_0]; exact Ch.rf) rfl
    · skip
      refine go_aloadn0 (q := 29) dX3_lays_28 rfl ?_
      refine go_ldc (q := 31) dX3_lays_29 ko_X3_237 rfl ?_
      refine go_ic1 (q := 34) dX3_lays_31 lk_X3_56 (by decide) (by decide) (Nat.le_of_ble_eq_true rfl) rfl (c_finding (p := 5) (by decide) (by decide) ?_)
      exact go_iret dX3_lays_34 rfl (hM t ht rfl h2 _ (Cf.rf 5))
  · skip
    refine go_aloadn0 (q := 8) dX3_lays_7 rfl ?_
    refine go_ldc (q := 10) dX3_lays_8 ko_X3_55 rfl ?_
    refine go_ic1 (q := 13) dX3_lays_10 lk_X3_56 (by decide) (by decide) (Nat.le_of_ble_eq_true rfl) rfl (c_finding (p := 0) (by decide) (by decide) ?_)
    exact go_iret dX3_lays_13 rfl (hB h1 _ (Cf.rf 0))

set_option maxHeartbeats 4000000 in
set_option maxRecDepth 100000 in
theorem c_book_105 {S : St} {N : Nat → Nat → Int64} {X : St} {Y : Nat → Int64} {Q : Option Value → AH → Prop} {t n : Nat} {x : Int32} (hw : WF (S 0)) (ht : t < 4) (hb : okB (S 6 t 0)) (hl : S 6 t 1 ≤ 40) (hn : S 0 13 2 + n ≤ 10000) (hO : ∀ S', Cc S S' (S 0) → Q (some (.int (nI (min (S 0 13 0) (S 6 t 1))))) (hp S' (bkN N t (S 6 t 0) (fun c => wrt (agN (S 0) n) c) (min (S 0 13 0) (S 6 t 1))) X Y)) {S1 : St} (gg : Cc S S1 (S 0)) (e2 : S1 2 = agN (S 0) n) : ∀ (fu : Nat) (c : Nat), min (S 0 13 0) (S 6 t 1) - c < fu → (c ≤ min (S 0 13 0) (S 6 t 1)) → Go 7 RX3 cX3_book 6 (some .int) 105 [some (.ref 0), some (.int x), some (.int (nI n)), some (.ref (so t)), some (.int (nI (min (S 0 13 0) (S 6 t 1)))), some (.int (nI c))] [] (hp S1 (bkN N t (S 6 t 0) (fun c => wrt (agN (S 0) n) c) c) X Y) Q := by
  intro fu
  induction fu with
  | zero => intro c hfu; exact absurd hfu (Nat.not_lt_zero _)
  | succ fu ih =>
    intro c hfu hc
    have h2 := hw.co
    have e6 : S1 6 = S 6 := gg.2.2.2.2
    have hw2 : WF (S1 2) := by rw [e2]; exact (wf_agN hw hn).1
    have hb1 : okB (S1 6 t 0) := by rw [e6]; exact hb
    refine go_iload5 (q := 107) dX3_book_105 rfl ?_
    refine go_iload4 (q := 109) dX3_book_107 rfl ?_
    refine go_icmp_geN (tgt := 134) (q := 112) dX3_book_109 (by decide) rfl (by omega) (by omega) (fun h3 => ?_) (fun h3 => ?_)
    · skip
      refine go_iload4 (q := 136) dX3_book_134 rfl ?_
      exact go_iret dX3_book_136 rfl (by have h := hO _ gg; rw [show min (S 0 13 0) (S 6 t 1) = c by omega] at h ⊢; exact h)
    · skip
      refine go_aloadn3 (q := 113) dX3_book_112 rfl ?_
      refine go_iload5 (q := 115) dX3_book_113 rfl ?_
      refine go_aloadn0 (q := 116) dX3_book_115 rfl ?_
      refine go_cg (q := 119) dX3_book_116 fl_X3_19 rfl rfl ?_
      refine go_iload5 (q := 121) dX3_book_119 rfl ?_
      refine go_im1 (q := 124) dX3_book_121 lk_X3_93 (by decide) (by decide) (Nat.le_of_ble_eq_true rfl) (by decide) rfl (c_worthOf (by decide) hw2 (by omega) ?_)
      rw [e2]
      refine go_i2l (q := 125) dX3_book_124 rfl ?_
      refine go_is2 (q := 128) dX3_book_125 lk_X3_243 (by decide) (by decide) (Nat.le_of_ble_eq_true rfl) ht rfl (c_put ht (by omega) hb1 ?_)
      rw [e6, bkN_s]
      refine go_iincN5 (n := 1) (q := 131) dX3_book_128 rfl (by decide) rfl ?_
      refine go_goto (tgt := 105) dX3_book_131 (by decide) ?_
      exact ih (c + 1) (by omega) (by omega)

set_option maxHeartbeats 4000000 in
set_option maxRecDepth 100000 in
theorem c_book {S : St} {N : Nat → Nat → Int64} {X : St} {Y : Nat → Int64} {Q : Option Value → AH → Prop} {x z : Int32} (hw : WF (S 0)) (hsh : ∀ t, t < 4 → okB (S 6 t 0) ∧ S 6 t 1 ≤ 40) (hB : ¬ rg x 0 3 → ∀ S', Cf S S' 0 → Q (some (.int (-1000000001))) (hp S' N X Y)) (hM : ∀ t, t < 4 → x = nI t → S 6 t 0 = 0 → ∀ S', Cf S S' 5 → Q (some (.int (-1000000006))) (hp S' N X Y)) (hI : ∀ t, t < 4 → x = nI t → S 6 t 0 ≠ 0 → ¬ rg z 0 120 → ∀ S', Cf S S' 0 → Q (some (.int (-1000000001))) (hp S' N X Y)) (hS : ∀ t n, t < 4 → x = nI t → S 6 t 0 ≠ 0 → n ≤ 120 → z = nI n → 9999 < S 0 13 2 + n → ∀ S', Cf S S' 4 → Q (some (.int (-1000000005))) (hp S' N X Y)) (hO : ∀ t n, t < 4 → x = nI t → S 6 t 0 ≠ 0 → n ≤ 120 → z = nI n → ¬ 9999 < S 0 13 2 + n → ∀ S', Cc S S' (S 0) → Q (some (.int (nI (min (S 0 13 0) (S 6 t 1))))) (hp S' (bkN N t (S 6 t 0) (fun c => wrt (agN (S 0) n) c) (min (S 0 13 0) (S 6 t 1))) X Y)) : Cn 7 yX3_book cX3_book 6 (some .int) [.ref 0, .int x, .int z] (hp S N X Y) Q := by
  refine cn_of (own := RX3) (lo := [some (.ref 0), some (.int x), some (.int z), none, none, none]) 3 rfl (by decide +kernel) rfl (Nat.le_of_ble_eq_true rfl) ?_
  refine go_iloadn1 (q := 1) dX3_book_0 rfl ?_
  refine go_is1_ (q := 4) dX3_book_1 lk_X3_228 (by decide) (by decide) (Nat.le_of_ble_eq_true rfl) rfl (c_isSheet ?_)
  refine go_ifneB (tgt := 14) (q := 7) dX3_book_4 (by decide) rfl (fun h1 => ?_) (fun h1 => ?_)
  · skip
    obtain ⟨t, ht, rfl, -, -⟩ := rg_nat (n := 3) h1 (by omega) (by omega)
    have ht : t < 4 := by omega
    have hb := (hsh t ht).1
    have hl := (hsh t ht).2
    have hb64 : S 6 t 0 ≤ 64 := by unfold okB at hb; omega
    refine go_aloadn0 (q := 15) dX3_book_14 rfl ?_
    refine go_cg (q := 18) dX3_book_15 fl_X3_34 rfl rfl ?_
    refine go_iloadn1 (q := 19) dX3_book_18 rfl ?_
    refine go_sal (q := 20) dX3_book_19 ht rfl ?_
    refine go_astoren3 (q := 21) dX3_book_20 rfl (by decide) rfl ?_
    refine go_aloadn3 (q := 22) dX3_book_21 rfl ?_
    refine go_is0 (q := 25) dX3_book_22 lk_X3_234 (by decide) (by decide) (Nat.le_of_ble_eq_true rfl) ht rfl (c_isMissing ht hb64 ?_)
    refine go_ifeqB (tgt := 35) (q := 28) dX3_book_25 (by decide) rfl (fun h2 => ?_) (fun h2 => ?_)
    · skip
      refine go_iloadn2 (q := 36) dX3_book_35 rfl ?_
      refine go_iconstN (n := 0) (q := 37) dX3_book_36 rfl ?_
      refine go_bipushN (v := 120) (q := 39) dX3_book_37 (by decide) rfl ?_
      refine go_is3_ (q := 42) dX3_book_39 lk_X3_51 (by decide) (by decide) (Nat.le_of_ble_eq_true rfl) rfl (c_isWithin (l := 0) (m := 120) (by decide) (by decide) ?_)
      refine go_ifneB (tgt := 52) (q := 45) dX3_book_42 (by decide) rfl (fun h3 => ?_) (fun h3 => ?_)
      · skip
        obtain ⟨n, hn, rfl, hn1, -⟩ := rg_nat (n := 120) h3 (by omega) (by omega)
        refine go_aloadn0 (q := 53) dX3_book_52 rfl ?_
        refine go_iloadn2 (q := 54) dX3_book_53 rfl ?_
        refine go_ic1 (q := 57) dX3_book_54 lk_X3_143 (by decide) (by decide) (Nat.le_of_ble_eq_true rfl) rfl (c_past hw (by omega) ?_)
        refine go_ifeqB (tgt := 67) (q := 60) dX3_book_57 (by decide) rfl (fun h4 => ?_) (fun h4 => ?_)
        · skip
          refine go_aloadn0 (q := 68) dX3_book_67 rfl ?_
          refine go_cg (q := 71) dX3_book_68 fl_X3_19 rfl rfl ?_
          refine go_aloadn0 (q := 72) dX3_book_71 rfl ?_
          refine go_cg (q := 75) dX3_book_72 fl_X3_10 rfl rfl ?_
          refine go_im1 (q := 78) dX3_book_75 lk_X3_183 (by decide) (by decide) (Nat.le_of_ble_eq_true rfl) (by decide) rfl (c_become (a := 0) (b := 2) (by decide) (by decide) (by decide) (fun S1 g1 => ?_))
          have hw1 : WF (S1 2) := g1.wf hw
          have e1 := g1.1
          have gg := g1.trial (Or.inl rfl)
          refine go_aloadn0 (q := 79) dX3_book_78 rfl ?_
          refine go_cg (q := 82) dX3_book_79 fl_X3_19 rfl rfl ?_
          refine go_iloadn2 (q := 83) dX3_book_82 rfl ?_
          refine go_im1 (q := 86) dX3_book_83 lk_X3_187 (by decide) (by decide) (Nat.le_of_ble_eq_true rfl) (by decide) rfl (c_age (by decide) hw1 (by rw [e1]; omega) (fun S2 g2 => ?_))
          have e2 : S2 2 = agN (S 0) n := by rw [g2.1, e1]
          have gg2 := gg.tr2 (g2.trial (Or.inl rfl))
          have e6 : S2 6 = S 6 := gg2.2.2.2.2
          have ec : agN (S 0) n 13 0 = S 0 13 0 := agN_13 _ _
          have hco := hw.co
          refine go_aloadn0 (q := 87) dX3_book_86 rfl ?_
          refine go_cg (q := 90) dX3_book_87 fl_X3_19 rfl rfl ?_
          refine go_mg (q := 93) dX3_book_90 fl_X3_69 (by decide) rfl rfl ?_
          rw [e2, ec]
          refine go_aloadn3 (q := 94) dX3_book_93 rfl ?_
          refine go_sg (q := 97) dX3_book_94 fl_X3_238 ht rfl rfl ?_
          rw [e6]
          refine go_is2_ (q := 100) dX3_book_97 lk_X3_261 (by decide) (by decide) (Nat.le_of_ble_eq_true rfl) rfl (c_min ?_)
          refine go_st (st' := [.int (nI (min (S 0 13 0) (S 6 t 1)))]) (by rw [minN (by omega) (by omega)]) ?_
          refine go_istore4 (q := 102) dX3_book_100 rfl (by decide) rfl ?_
          refine go_iconstN (n := 0) (q := 103) dX3_book_102 rfl ?_
          refine go_istore5 (q := 105) dX3_book_103 rfl (by decide) rfl ?_
          rw [← bkN_0 N t (S 6 t 0) (fun c => wrt (agN (S 0) n) c)]
          exact c_book_105 hw ht hb hl (by omega) (hO t n ht rfl h2 hn rfl h4) gg2 e2 (min (S 0 13 0) (S 6 t 1) + 1) 0 (by omega) (by omega)
        · skip
          refine go_aloadn0 (q := 61) dX3_book_60 rfl ?_
          refine go_ldc (q := 63) dX3_book_61 ko_X3_123 rfl ?_
          refine go_ic1 (q := 66) dX3_book_63 lk_X3_56 (by decide) (by decide) (Nat.le_of_ble_eq_true rfl) rfl (c_finding (p := 4) (by decide) (by decide) ?_)
          exact go_iret dX3_book_66 rfl (hS t n ht rfl h2 hn rfl h4 _ (Cf.rf 4))
      · skip
        refine go_aloadn0 (q := 46) dX3_book_45 rfl ?_
        refine go_ldc (q := 48) dX3_book_46 ko_X3_55 rfl ?_
        refine go_ic1 (q := 51) dX3_book_48 lk_X3_56 (by decide) (by decide) (Nat.le_of_ble_eq_true rfl) rfl (c_finding (p := 0) (by decide) (by decide) ?_)
        exact go_iret dX3_book_51 rfl (hI t ht rfl h2 h3 _ (Cf.rf 0))
    · skip
      refine go_aloadn0 (q := 29) dX3_book_28 rfl ?_
      refine go_ldc (q := 31) dX3_book_29 ko_X3_237 rfl ?_
      refine go_ic1 (q := 34) dX3_book_31 lk_X3_56 (by decide) (by decide) (Nat.le_of_ble_eq_true rfl) rfl (c_finding (p := 5) (by decide) (by decide) ?_)
      exact go_iret dX3_book_34 rfl (hM t ht rfl h2 _ (Cf.rf 5))
  · skip
    refine go_aloadn0 (q := 8) dX3_book_7 rfl ?_
    refine go_ldc (q := 10) dX3_book_8 ko_X3_55 rfl ?_
    refine go_ic1 (q := 13) dX3_book_10 lk_X3_56 (by decide) (by decide) (Nat.le_of_ble_eq_true rfl) rfl (c_finding (p := 0) (by decide) (by decide) ?_)
    exact go_iret dX3_book_13 rfl (hB h1 _ (Cf.rf 0))

set_option maxHeartbeats 4000000 in
set_option maxRecDepth 100000 in
theorem c_read_79 {S : St} {N : Nat → Nat → Int64} {X : St} {Y : Nat → Int64} {Q : Option Value → AH → Prop} {t f : Nat} {x : Int32} (hw : WF (S 0)) (ht : t < 4) (hf : f ≤ 3) (hl : S 6 t 1 ≤ 40) (hm : S 0 13 2 + 40 ≤ 10000) (hY : ∀ c, c < S 6 t 1 → N t c ≠ (nI (purse (monN (S 0) c) f)).toInt64 → (∀ d, d < c → N t d = (nI (purse (monN (S 0) d) f)).toInt64) → ∀ S', Cc S S' (S 0) → Q (some (.int (nI (1 + c)))) (hp S' N X Y)) (hO : (∀ d, d < S 6 t 1 → N t d = (nI (purse (monN (S 0) d) f)).toInt64) → ∀ S', Cc S S' (S 0) → Q (some (.int (nI 0))) (hp S' N X Y)) : ∀ (fu : Nat) (c : Nat) (S1 : St), S 6 t 1 - c < fu → (c ≤ S 6 t 1) → (Cc S S1 (S 0)) → (S1 2 = monN (S 0) c) → (∀ d, d < c → N t d = (nI (purse (monN (S 0) d) f)).toInt64) → Go 19 RX3 cX3_read 5 (some .int) 79 [some (.ref 0), some (.int x), some (.int (nI f)), some (.ref (so t)), some (.int (nI c))] [] (hp S1 N X Y) Q := by
  intro fu
  induction fu with
  | zero => intro c S1 hfu; exact absurd hfu (Nat.not_lt_zero _)
  | succ fu ih =>
    intro c S1 hfu hc gg e1 hall
    have h2 := wf_monN hw (n := c) (by omega)
    have hw1 : WF (S1 2) := by rw [e1]; exact h2.1
    have e6 : S1 6 = S 6 := gg.2.2.2.2
    refine go_iload4 (q := 81) dX3_read_79 rfl ?_
    refine go_aloadn3 (q := 82) dX3_read_81 rfl ?_
    refine go_sg (q := 85) dX3_read_82 fl_X3_238 ht rfl rfl ?_
    rw [e6]
    refine go_icmp_geN (tgt := 127) (q := 88) dX3_read_85 (by decide) rfl (by omega) (by omega) (fun h3 => ?_) (fun h3 => ?_)
    · skip
      refine go_iconstN (n := 0) (q := 128) dX3_read_127 rfl ?_
      exact go_iret dX3_read_128 rfl (hO (fun d hd => hall d (by omega)) _ gg)
    · skip
      refine go_aloadn3 (q := 89) dX3_read_88 rfl ?_
      refine go_sg (q := 92) dX3_read_89 fl_X3_239 ht rfl rfl ?_
      refine go_iload4 (q := 94) dX3_read_92 rfl ?_
      refine go_sld (q := 95) dX3_read_94 ht (by omega) rfl ?_
      refine go_aloadn0 (q := 96) dX3_read_95 rfl ?_
      refine go_cg (q := 99) dX3_read_96 fl_X3_19 rfl rfl ?_
      refine go_iloadn2 (q := 100) dX3_read_99 rfl ?_
      refine go_im1 (q := 103) dX3_read_100 lk_X3_124 (by decide) (by decide) (Nat.le_of_ble_eq_true rfl) (by decide) rfl (c_purseOf (by decide) hw1 (by omega) ?_)
      rw [e1]
      refine go_i2l (q := 104) dX3_read_103 rfl ?_
      refine go_lcmp (q := 105) dX3_read_104 rfl ?_
      refine go_if_eq (tgt := 113) (q := 108) dX3_read_105 (by decide) rfl (fun h5 => ?_) (fun h5 => ?_)
      · skip
        refine go_aloadn0 (q := 114) dX3_read_113 rfl ?_
        refine go_cg (q := 117) dX3_read_114 fl_X3_19 rfl rfl ?_
        refine go_iconstN (n := 1) (q := 118) dX3_read_117 rfl ?_
        refine go_im1 (q := 121) dX3_read_118 lk_X3_173 (by decide) (by decide) (Nat.le_of_ble_eq_true rfl) (by decide) rfl (c_goOn (n0 := 1) (by decide) hw1 (by rw [e1, h2.2]; omega) (fun S2 g2 => ?_))
        refine go_iincN4 (n := 1) (q := 124) dX3_read_121 rfl (by decide) rfl ?_
        refine go_goto (tgt := 79) dX3_read_124 (by decide) ?_
        exact ih (c + 1) S2 (by omega) (by omega) (gg.tr2 (g2.trial (Or.inl rfl))) (by rw [g2.1, e1]; rfl) (fun d hd => by rcases Nat.lt_or_ge d c with z | z; exact hall d z; rw [show d = c by omega]; exact (lg_cmp_eq _ _).mp h5)
      · skip
        refine go_iconstN (n := 1) (q := 109) dX3_read_108 rfl ?_
        refine go_iload4 (q := 111) dX3_read_109 rfl ?_
        refine go_iaddN (q := 112) dX3_read_111 rfl ?_
        exact go_iret dX3_read_112 rfl (hY c (by omega) (fun z => h5 ((lg_cmp_eq _ _).mpr z)) hall _ gg)

set_option maxHeartbeats 4000000 in
set_option maxRecDepth 100000 in
theorem c_read {S : St} {N : Nat → Nat → Int64} {X : St} {Y : Nat → Int64} {Q : Option Value → AH → Prop} {x y : Int32} (hw : WF (S 0)) (hsh : ∀ t, t < 4 → okB (S 6 t 0) ∧ S 6 t 1 ≤ 40) (hB : ¬ rg x 0 3 → ∀ S', Cf S S' 0 → Q (some (.int (-1000000001))) (hp S' N X Y)) (hM : ∀ t, t < 4 → x = nI t → S 6 t 0 = 0 → ∀ S', Cf S S' 5 → Q (some (.int (-1000000006))) (hp S' N X Y)) (hI : ∀ t, t < 4 → x = nI t → S 6 t 0 ≠ 0 → ¬ rg y 0 3 → ∀ S', Cf S S' 0 → Q (some (.int (-1000000001))) (hp S' N X Y)) (hS : ∀ t, t < 4 → x = nI t → S 6 t 0 ≠ 0 → rg y 0 3 → 9999 < S 0 13 2 + 40 → ∀ S', Cf S S' 4 → Q (some (.int (-1000000005))) (hp S' N X Y)) (hY : ∀ t f c, t < 4 → x = nI t → S 6 t 0 ≠ 0 → f ≤ 3 → y = nI f → ¬ 9999 < S 0 13 2 + 40 → c < S 6 t 1 → N t c ≠ (nI (purse (monN (S 0) c) f)).toInt64 → (∀ d, d < c → N t d = (nI (purse (monN (S 0) d) f)).toInt64) → ∀ S', Cc S S' (S 0) → Q (some (.int (nI (1 + c)))) (hp S' N X Y)) (hO : ∀ t f, t < 4 → x = nI t → S 6 t 0 ≠ 0 → f ≤ 3 → y = nI f → ¬ 9999 < S 0 13 2 + 40 → (∀ d, d < S 6 t 1 → N t d = (nI (purse (monN (S 0) d) f)).toInt64) → ∀ S', Cc S S' (S 0) → Q (some (.int (nI 0))) (hp S' N X Y)) : Cn 19 yX3_read cX3_read 5 (some .int) [.ref 0, .int x, .int y] (hp S N X Y) Q := by
  refine cn_of (own := RX3) (lo := [some (.ref 0), some (.int x), some (.int y), none, none]) 2 rfl (by decide +kernel) rfl (Nat.le_of_ble_eq_true rfl) ?_
  refine go_iloadn1 (q := 1) dX3_read_0 rfl ?_
  refine go_is1_ (q := 4) dX3_read_1 lk_X3_228 (by decide) (by decide) (Nat.le_of_ble_eq_true rfl) rfl (c_isSheet ?_)
  refine go_ifneB (tgt := 14) (q := 7) dX3_read_4 (by decide) rfl (fun h1 => ?_) (fun h1 => ?_)
  · skip
    obtain ⟨t, ht, rfl, -, -⟩ := rg_nat (n := 3) h1 (by omega) (by omega)
    have ht : t < 4 := by omega
    have hb := (hsh t ht).1
    have hl := (hsh t ht).2
    have hb64 : S 6 t 0 ≤ 64 := by unfold okB at hb; omega
    refine go_aloadn0 (q := 15) dX3_read_14 rfl ?_
    refine go_cg (q := 18) dX3_read_15 fl_X3_34 rfl rfl ?_
    refine go_iloadn1 (q := 19) dX3_read_18 rfl ?_
    refine go_sal (q := 20) dX3_read_19 ht rfl ?_
    refine go_astoren3 (q := 21) dX3_read_20 rfl (by decide) rfl ?_
    refine go_aloadn3 (q := 22) dX3_read_21 rfl ?_
    refine go_is0 (q := 25) dX3_read_22 lk_X3_234 (by decide) (by decide) (Nat.le_of_ble_eq_true rfl) ht rfl (c_isMissing ht hb64 ?_)
    refine go_ifeqB (tgt := 35) (q := 28) dX3_read_25 (by decide) rfl (fun h2 => ?_) (fun h2 => ?_)
    · skip
      refine go_iloadn2 (q := 36) dX3_read_35 rfl ?_
      refine go_is1_ (q := 39) dX3_read_36 lk_X3_47 (by decide) (by decide) (Nat.le_of_ble_eq_true rfl) rfl (c_isOwner ?_)
      refine go_ifneB (tgt := 49) (q := 42) dX3_read_39 (by decide) rfl (fun h3 => ?_) (fun h3 => ?_)
      · skip
        have h30 := h3
        obtain ⟨f, hf, rfl, -, -⟩ := rg_nat (n := 3) h3 (by omega) (by omega)
        refine go_aloadn0 (q := 50) dX3_read_49 rfl ?_
        refine go_bipushN (v := 40) (q := 52) dX3_read_50 (by decide) rfl ?_
        refine go_ic1 (q := 55) dX3_read_52 lk_X3_143 (by decide) (by decide) (Nat.le_of_ble_eq_true rfl) rfl (c_past hw (by omega) ?_)
        refine go_ifeqB (tgt := 65) (q := 58) dX3_read_55 (by decide) rfl (fun h4 => ?_) (fun h4 => ?_)
        · skip
          refine go_aloadn0 (q := 66) dX3_read_65 rfl ?_
          refine go_cg (q := 69) dX3_read_66 fl_X3_19 rfl rfl ?_
          refine go_aloadn0 (q := 70) dX3_read_69 rfl ?_
          refine go_cg (q := 73) dX3_read_70 fl_X3_10 rfl rfl ?_
          refine go_im1 (q := 76) dX3_read_73 lk_X3_183 (by decide) (by decide) (Nat.le_of_ble_eq_true rfl) (by decide) rfl (c_become (a := 0) (b := 2) (by decide) (by decide) (by decide) (fun S1 g1 => ?_))
          have hw1 : WF (S1 2) := g1.wf hw
          have e1 := g1.1
          have gg := g1.trial (Or.inl rfl)
          refine go_iconstN (n := 0) (q := 77) dX3_read_76 rfl ?_
          refine go_istore4 (q := 79) dX3_read_77 rfl (by decide) rfl ?_
          exact c_read_79 hw ht hf hl (by omega) (fun c => hY t f c ht rfl h2 hf rfl h4) (hO t f ht rfl h2 hf rfl h4) 41 0 S1 (by omega) (by omega) gg e1 (fun d hd => absurd hd (Nat.not_lt_zero d))
        · skip
          refine go_aloadn0 (q := 59) dX3_read_58 rfl ?_
          refine go_ldc (q := 61) dX3_read_59 ko_X3_123 rfl ?_
          refine go_ic1 (q := 64) dX3_read_61 lk_X3_56 (by decide) (by decide) (Nat.le_of_ble_eq_true rfl) rfl (c_finding (p := 4) (by decide) (by decide) ?_)
          exact go_iret dX3_read_64 rfl (hS t ht rfl h2 h30 h4 _ (Cf.rf 4))
      · skip
        refine go_aloadn0 (q := 43) dX3_read_42 rfl ?_
        refine go_ldc (q := 45) dX3_read_43 ko_X3_55 rfl ?_
        refine go_ic1 (q := 48) dX3_read_45 lk_X3_56 (by decide) (by decide) (Nat.le_of_ble_eq_true rfl) rfl (c_finding (p := 0) (by decide) (by decide) ?_)
        exact go_iret dX3_read_48 rfl (hI t ht rfl h2 h3 _ (Cf.rf 0))
    · skip
      refine go_aloadn0 (q := 29) dX3_read_28 rfl ?_
      refine go_ldc (q := 31) dX3_read_29 ko_X3_237 rfl ?_
      refine go_ic1 (q := 34) dX3_read_31 lk_X3_56 (by decide) (by decide) (Nat.le_of_ble_eq_true rfl) rfl (c_finding (p := 5) (by decide) (by decide) ?_)
      exact go_iret dX3_read_34 rfl (hM t ht rfl h2 _ (Cf.rf 5))
  · skip
    refine go_aloadn0 (q := 8) dX3_read_7 rfl ?_
    refine go_ldc (q := 10) dX3_read_8 ko_X3_55 rfl ?_
    refine go_ic1 (q := 13) dX3_read_10 lk_X3_56 (by decide) (by decide) (Nat.le_of_ble_eq_true rfl) rfl (c_finding (p := 0) (by decide) (by decide) ?_)
    exact go_iret dX3_read_13 rfl (hB h1 _ (Cf.rf 0))
