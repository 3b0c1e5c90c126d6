set_option maxHeartbeats 4000000 in
set_option maxRecDepth 100000 in
theorem r_read_B {S : St} {N : Nat → Nat → Int64} {X : St} {Y : Nat → Int64} {Q : Option Value → AH → Prop} {x y : Int32} (hsh : ∀ t, t < 4 → okB (X 3 6 t) ∧ X 3 5 t ≤ 40) (h : ¬ rg x 0 3) (hB : ∀ X', Xf X X' 0 → Q (some (.int (-1000000001))) (hp S N X' Y)) : Go 11 RX4 cX4_read 5 (some .int) 0 [some (.ref 69), some (.int x), some (.int y), none, none] [] (hp S N X Y) Q := by
  refine go_aloadn0 (q := 1) dX4_read_0 rfl ?_
  refine go_iloadn1 (q := 2) dX4_read_1 rfl ?_
  refine go_ix1 (q := 5) dX4_read_2 lk_X4_261 (by decide) (by decide) (Nat.le_of_ble_eq_true rfl) rfl (r_wantsB hsh h ?_)
  refine go_if_eq (tgt := 18) (q := 8) dX4_read_5 (by decide) rfl (fun h1 => ?_) (fun h1 => ?_)
  · skip
    exact absurd h1 (by decide)
  · skip
    refine go_aloadn0 (q := 9) dX4_read_8 rfl ?_
    refine go_aloadn0 (q := 10) dX4_read_9 rfl ?_
    refine go_iloadn1 (q := 11) dX4_read_10 rfl ?_
    refine go_ix1 (q := 14) dX4_read_11 lk_X4_261 (by decide) (by decide) (Nat.le_of_ble_eq_true rfl) rfl (r_wantsB hsh h ?_)
    refine go_ix1 (q := 17) dX4_read_14 lk_X4_57 (by decide) (by decide) (Nat.le_of_ble_eq_true rfl) rfl (r_finds (p := 0) (by decide) (by decide) ?_)
    exact go_iret dX4_read_17 rfl (hB _ (Xf.rf 0))

set_option maxHeartbeats 4000000 in
set_option maxRecDepth 100000 in
theorem r_read_M {S : St} {N : Nat → Nat → Int64} {X : St} {Y : Nat → Int64} {Q : Option Value → AH → Prop} {t : Nat} {y : Int32} (hsh : ∀ t, t < 4 → okB (X 3 6 t) ∧ X 3 5 t ≤ 40) (ht : t < 4) (h : X 3 6 t = 0) (hM : ∀ X', Xf X X' 5 → Q (some (.int (-1000000006))) (hp S N X' Y)) : Go 11 RX4 cX4_read 5 (some .int) 0 [some (.ref 69), some (.int (nI t)), some (.int y), none, none] [] (hp S N X Y) Q := by
  refine go_aloadn0 (q := 1) dX4_read_0 rfl ?_
  refine go_iloadn1 (q := 2) dX4_read_1 rfl ?_
  refine go_ix1 (q := 5) dX4_read_2 lk_X4_261 (by decide) (by decide) (Nat.le_of_ble_eq_true rfl) rfl (r_wantsM hsh ht h ?_)
  refine go_if_eq (tgt := 18) (q := 8) dX4_read_5 (by decide) rfl (fun h1 => ?_) (fun h1 => ?_)
  · skip
    exact absurd h1 (by decide)
  · skip
    refine go_aloadn0 (q := 9) dX4_read_8 rfl ?_
    refine go_aloadn0 (q := 10) dX4_read_9 rfl ?_
    refine go_iloadn1 (q := 11) dX4_read_10 rfl ?_
    refine go_ix1 (q := 14) dX4_read_11 lk_X4_261 (by decide) (by decide) (Nat.le_of_ble_eq_true rfl) rfl (r_wantsM hsh ht h ?_)
    refine go_ix1 (q := 17) dX4_read_14 lk_X4_57 (by decide) (by decide) (Nat.le_of_ble_eq_true rfl) rfl (r_finds (p := 5) (by decide) (by decide) ?_)
    exact go_iret dX4_read_17 rfl (hM _ (Xf.rf 5))

set_option maxHeartbeats 4000000 in
set_option maxRecDepth 100000 in
theorem r_read_57 {S : St} {N : Nat → Nat → Int64} {X : St} {Y : Nat → Int64} {Q : Option Value → AH → Prop} {t f : Nat} (hw : WF (X 0)) (hl : WL (X 0)) (hsh : ∀ t, t < 4 → okB (X 3 6 t) ∧ X 3 5 t ≤ 40) (ht : t < 4) (hf : f ≤ 3) (hm : X 0 13 2 + 41 ≤ 10000) (hY : ∀ c, c < X 3 5 t → Y (40 * t + c) ≠ (nI (purse (monN (X 0) c) f)).toInt64 → (∀ d, d < c → Y (40 * t + d) = (nI (purse (monN (X 0) d) f)).toInt64) → ∀ X', Xp X X' (X 0) → Q (some (.int (nI (1 + c)))) (hp S N X' Y)) (hO : (∀ d, d < X 3 5 t → Y (40 * t + d) = (nI (purse (monN (X 0) d) f)).toInt64) → ∀ X', Xp X X' (X 0) → Q (some (.int (nI 0))) (hp S N X' Y)) : ∀ (fu : Nat) (k : Nat) (X1 : St), X 3 5 t - k < fu → (k ≤ X 3 5 t) → (Xc (uk X 2 (X 0)) X1 (monN (X 0) k)) → (∀ d, d < k → Y (40 * t + d) = (nI (purse (monN (X 0) d) f)).toInt64) → Go 11 RX4 cX4_read 5 (some .int) 57 [some (.ref 69), some (.int (nI t)), some (.int (nI f)), some (.int (nI 0)), some (.int (nI k))] [] (hp S N X1 Y) Q := by
  intro fu
  induction fu with
  | zero => intro k X1 hfu; exact absurd hfu (Nat.not_lt_zero _)
  | succ fu ih =>
    intro k X1 hfu hk g1 hall
    have hlen := (hsh t ht).2
    have e1 : X1 0 = monN (X 0) k := g1.1
    have hwf := wf_monN hw (n := k) (by omega)
    have hw1 : WF (X1 0) := by rw [e1]; exact hwf.1
    have hl1 : WL (X1 0) := by rw [e1]; exact wl_monN hl k
    have e5 : X1 3 5 t = X 3 5 t := by rw [g1.2.2.2 5 (by decide) (by decide)]; rfl
    refine go_iload4 (q := 59) dX4_read_57 rfl ?_
    refine go_aloadn0 (q := 60) dX4_read_59 rfl ?_
    refine go_xg (q := 63) dX4_read_60 fl_X4_28 rfl rfl ?_
    refine go_iloadn1 (q := 64) dX4_read_63 rfl ?_
    refine go_xzld (q := 65) dX4_read_64 ht rfl ?_
    rw [e5]
    refine go_icmp_geN (tgt := 113) (q := 68) dX4_read_65 (by decide) rfl (by omega) (by omega) (fun h1 => ?_) (fun h1 => ?_)
    · skip
      refine go_aloadn0 (q := 114) dX4_read_113 rfl ?_
      refine go_ix0 (q := 117) dX4_read_114 lk_X4_163 (by decide) (by decide) (Nat.le_of_ble_eq_true rfl) rfl (r_laysBack ?_)
      refine go_iloadn3 (q := 118) dX4_read_117 rfl ?_
      exact go_iret dX4_read_118 rfl (hO (fun d hd => hall d (by omega)) _ g1.lb)
    · skip
      refine go_iloadn3 (q := 69) dX4_read_68 rfl ?_
      refine go_if_neN (tgt := 113) (q := 72) dX4_read_69 (by decide) rfl (by omega) (fun h4 => ?_) (fun h4 => ?_)
      · skip
        exact absurd rfl h4
      · skip
        refine go_aloadn0 (q := 73) dX4_read_72 rfl ?_
        refine go_xg (q := 76) dX4_read_73 fl_X4_31 rfl rfl ?_
        refine go_bipushN (v := 40) (q := 78) dX4_read_76 (by decide) rfl ?_
        refine go_iloadn1 (q := 79) dX4_read_78 rfl ?_
        refine go_imulN (q := 80) dX4_read_79 rfl ?_
        refine go_iload4 (q := 82) dX4_read_80 rfl ?_
        refine go_iaddN (q := 83) dX4_read_82 rfl ?_
        refine go_xlld (q := 84) dX4_read_83 (show 40 * t + k < 160 by omega) rfl ?_
        refine go_aloadn0 (q := 85) dX4_read_84 rfl ?_
        refine go_iloadn2 (q := 86) dX4_read_85 rfl ?_
        refine go_ix1 (q := 89) dX4_read_86 lk_X4_120 (by decide) (by decide) (Nat.le_of_ble_eq_true rfl) rfl (r_purseOf hw1 (by omega) ?_)
        rw [e1]
        refine go_i2l (q := 90) dX4_read_89 rfl ?_
        refine go_lcmp (q := 91) dX4_read_90 rfl ?_
        refine go_if_ne (tgt := 98) (q := 94) dX4_read_91 (by decide) rfl (fun h5 => ?_) (fun h5 => ?_)
        · skip
          refine go_iconstN (n := 1) (q := 99) dX4_read_98 rfl ?_
          refine go_iload4 (q := 101) dX4_read_99 rfl ?_
          refine go_iaddN (q := 102) dX4_read_101 rfl ?_
          refine go_istoren3 (q := 103) dX4_read_102 rfl (by decide) rfl ?_
          refine go_aloadn0 (q := 104) dX4_read_103 rfl ?_
          refine go_ix0 (q := 107) dX4_read_104 lk_X4_146 (by decide) (by decide) (Nat.le_of_ble_eq_true rfl) rfl (r_goesOn hw1 hl1 (by rw [e1, hwf.2]; omega) (fun X2 g2 => ?_))
          rw [e1] at g2
          have e52 : X2 3 5 t = X 3 5 t := by rw [g2.2.2.2 5 (by decide) (by decide), e5]
          refine go_iincN4 (n := 1) (q := 110) dX4_read_107 rfl (by decide) rfl ?_
          refine go_goto (tgt := 57) dX4_read_110 (by decide) ?_
          refine go_iload4 (q := 59) dX4_read_57 rfl ?_
          refine go_aloadn0 (q := 60) dX4_read_59 rfl ?_
          refine go_xg (q := 63) dX4_read_60 fl_X4_28 rfl rfl ?_
          refine go_iloadn1 (q := 64) dX4_read_63 rfl ?_
          refine go_xzld (q := 65) dX4_read_64 ht rfl ?_
          rw [e52]
          refine go_icmp_geN (tgt := 113) (q := 68) dX4_read_65 (by decide) rfl (by omega) (by omega) (fun h6 => ?_) (fun h6 => ?_)
          · skip
            refine go_aloadn0 (q := 114) dX4_read_113 rfl ?_
            refine go_ix0 (q := 117) dX4_read_114 lk_X4_163 (by decide) (by decide) (Nat.le_of_ble_eq_true rfl) rfl (r_laysBack ?_)
            refine go_iloadn3 (q := 118) dX4_read_117 rfl ?_
            exact go_iret dX4_read_118 rfl (hY k (by omega) (fun z => h5 ((lg_cmp_eq _ _).mpr z)) hall _ (g1.tr g2).lb)
          · skip
            refine go_iloadn3 (q := 69) dX4_read_68 rfl ?_
            refine go_if_neN (tgt := 113) (q := 72) dX4_read_69 (by decide) rfl (by omega) (fun h7 => ?_) (fun h7 => ?_)
            · skip
              refine go_aloadn0 (q := 114) dX4_read_113 rfl ?_
              refine go_ix0 (q := 117) dX4_read_114 lk_X4_163 (by decide) (by decide) (Nat.le_of_ble_eq_true rfl) rfl (r_laysBack ?_)
              refine go_iloadn3 (q := 118) dX4_read_117 rfl ?_
              exact go_iret dX4_read_118 rfl (hY k (by omega) (fun z => h5 ((lg_cmp_eq _ _).mpr z)) hall _ (g1.tr g2).lb)
            · skip
              exact absurd h7 (by omega)
        · skip
          refine go_iconstN (n := 0) (q := 95) dX4_read_94 rfl ?_
          refine go_goto (tgt := 102) dX4_read_95 (by decide) ?_
          refine go_istoren3 (q := 103) dX4_read_102 rfl (by decide) rfl ?_
          refine go_aloadn0 (q := 104) dX4_read_103 rfl ?_
          refine go_ix0 (q := 107) dX4_read_104 lk_X4_146 (by decide) (by decide) (Nat.le_of_ble_eq_true rfl) rfl (r_goesOn hw1 hl1 (by rw [e1, hwf.2]; omega) (fun X2 g2 => ?_))
          rw [e1] at g2
          have e52 : X2 3 5 t = X 3 5 t := by rw [g2.2.2.2 5 (by decide) (by decide), e5]
          refine go_iincN4 (n := 1) (q := 110) dX4_read_107 rfl (by decide) rfl ?_
          refine go_goto (tgt := 57) dX4_read_110 (by decide) ?_
          exact ih (k + 1) X2 (by omega) (by omega) (g1.tr g2) (fun d hd => by rcases Nat.lt_or_ge d k with z | z; exact hall d z; rw [show d = k by omega]; exact (lg_cmp_eq _ _).mp h5)

set_option maxHeartbeats 4000000 in
set_option maxRecDepth 100000 in
theorem r_read_O {S : St} {N : Nat → Nat → Int64} {X : St} {Y : Nat → Int64} {Q : Option Value → AH → Prop} {t : Nat} {y : Int32} (hw : WF (X 0)) (hl : WL (X 0)) (hsh : ∀ t, t < 4 → okB (X 3 6 t) ∧ X 3 5 t ≤ 40) (ht : t < 4) (h : ¬ X 3 6 t = 0) (hI : ¬ rg y 0 3 → ∀ X', Xf X X' 0 → Q (some (.int (-1000000001))) (hp S N X' Y)) (hS : rg y 0 3 → 9999 < X 0 13 2 + 40 → ∀ X', Xf X X' 4 → Q (some (.int (-1000000005))) (hp S N X' Y)) (hY : ∀ f c, f ≤ 3 → y = nI f → ¬ 9999 < X 0 13 2 + 40 → c < X 3 5 t → Y (40 * t + c) ≠ (nI (purse (monN (X 0) c) f)).toInt64 → (∀ d, d < c → Y (40 * t + d) = (nI (purse (monN (X 0) d) f)).toInt64) → ∀ X', Xp X X' (X 0) → Q (some (.int (nI (1 + c)))) (hp S N X' Y)) (hO : ∀ f, f ≤ 3 → y = nI f → ¬ 9999 < X 0 13 2 + 40 → (∀ d, d < X 3 5 t → Y (40 * t + d) = (nI (purse (monN (X 0) d) f)).toInt64) → ∀ X', Xp X X' (X 0) → Q (some (.int (nI 0))) (hp S N X' Y)) : Go 11 RX4 cX4_read 5 (some .int) 0 [some (.ref 69), some (.int (nI t)), some (.int y), none, none] [] (hp S N X Y) Q := by
  refine go_aloadn0 (q := 1) dX4_read_0 rfl ?_
  refine go_iloadn1 (q := 2) dX4_read_1 rfl ?_
  refine go_ix1 (q := 5) dX4_read_2 lk_X4_261 (by decide) (by decide) (Nat.le_of_ble_eq_true rfl) rfl (r_wantsO hsh ht h ?_)
  refine go_if_eqN (tgt := 18) (q := 8) dX4_read_5 (by decide) rfl (by omega) (fun h1 => ?_) (fun h1 => ?_)
  · skip
    refine go_iloadn2 (q := 19) dX4_read_18 rfl ?_
    refine go_is1_ (q := 22) dX4_read_19 lk_X4_43 (by decide) (by decide) (Nat.le_of_ble_eq_true rfl) rfl (r_isOwner ?_)
    refine go_ifneB (tgt := 32) (q := 25) dX4_read_22 (by decide) rfl (fun h2 => ?_) (fun h2 => ?_)
    · skip
      have h20 := h2
      obtain ⟨f, hf, rfl, -, -⟩ := rg_nat (n := 3) h2 (by omega) (by omega)
      refine go_aloadn0 (q := 33) dX4_read_32 rfl ?_
      refine go_bipushN (v := 40) (q := 35) dX4_read_33 (by decide) rfl ?_
      refine go_ix1 (q := 38) dX4_read_35 lk_X4_139 (by decide) (by decide) (Nat.le_of_ble_eq_true rfl) rfl (r_isFar hw (by omega) ?_)
      refine go_ifeqB (tgt := 48) (q := 41) dX4_read_38 (by decide) rfl (fun h3 => ?_) (fun h3 => ?_)
      · skip
        refine go_aloadn0 (q := 49) dX4_read_48 rfl ?_
        refine go_ix0 (q := 52) dX4_read_49 lk_X4_160 (by decide) (by decide) (Nat.le_of_ble_eq_true rfl) rfl (r_laysBy ?_)
        refine go_iconstN (n := 0) (q := 53) dX4_read_52 rfl ?_
        refine go_istoren3 (q := 54) dX4_read_53 rfl (by decide) rfl ?_
        refine go_iconstN (n := 0) (q := 55) dX4_read_54 rfl ?_
        refine go_istore4 (q := 57) dX4_read_55 rfl (by decide) rfl ?_
        exact r_read_57 hw hl hsh ht hf (by omega) (fun c => hY f c hf rfl h3) (hO f hf rfl h3) (X 3 5 t + 1) 0 _ (by omega) (by omega) Xc.rf (fun d hd => absurd hd (Nat.not_lt_zero d))
      · skip
        refine go_aloadn0 (q := 42) dX4_read_41 rfl ?_
        refine go_ldc (q := 44) dX4_read_42 ko_X4_119 rfl ?_
        refine go_ix1 (q := 47) dX4_read_44 lk_X4_57 (by decide) (by decide) (Nat.le_of_ble_eq_true rfl) rfl (r_finds (p := 4) (by decide) (by decide) ?_)
        exact go_iret dX4_read_47 rfl (hS h20 h3 _ (Xf.rf 4))
    · skip
      refine go_aloadn0 (q := 26) dX4_read_25 rfl ?_
      refine go_ldc (q := 28) dX4_read_26 ko_X4_42 rfl ?_
      refine go_ix1 (q := 31) dX4_read_28 lk_X4_57 (by decide) (by decide) (Nat.le_of_ble_eq_true rfl) rfl (r_finds (p := 0) (by decide) (by decide) ?_)
      exact go_iret dX4_read_31 rfl (hI h2 _ (Xf.rf 0))
  · skip
    exact absurd rfl h1

set_option maxHeartbeats 4000000 in
set_option maxRecDepth 100000 in
theorem r_read {S : St} {N : Nat → Nat → Int64} {X : St} {Y : Nat → Int64} {Q : Option Value → AH → Prop} {x y : Int32} (hw : WF (X 0)) (hl : WL (X 0)) (hsh : ∀ t, t < 4 → okB (X 3 6 t) ∧ X 3 5 t ≤ 40) (hB : ¬ rg x 0 3 → ∀ X', Xf X X' 0 → Q (some (.int (-1000000001))) (hp S N X' Y)) (hM : ∀ t, t < 4 → x = nI t → X 3 6 t = 0 → ∀ X', Xf X X' 5 → Q (some (.int (-1000000006))) (hp S N X' Y)) (hI : ∀ t, t < 4 → x = nI t → X 3 6 t ≠ 0 → ¬ rg y 0 3 → ∀ X', Xf X X' 0 → Q (some (.int (-1000000001))) (hp S N X' Y)) (hS : ∀ t, t < 4 → x = nI t → X 3 6 t ≠ 0 → rg y 0 3 → 9999 < X 0 13 2 + 40 → ∀ X', Xf X X' 4 → Q (some (.int (-1000000005))) (hp S N X' Y)) (hY : ∀ t, t < 4 → x = nI t → X 3 6 t ≠ 0 → ∀ f c, f ≤ 3 → y = nI f → ¬ 9999 < X 0 13 2 + 40 → c < X 3 5 t → Y (40 * t + c) ≠ (nI (purse (monN (X 0) c) f)).toInt64 → (∀ d, d < c → Y (40 * t + d) = (nI (purse (monN (X 0) d) f)).toInt64) → ∀ X', Xp X X' (X 0) → Q (some (.int (nI (1 + c)))) (hp S N X' Y)) (hO : ∀ t, t < 4 → x = nI t → X 3 6 t ≠ 0 → ∀ f, f ≤ 3 → y = nI f → ¬ 9999 < X 0 13 2 + 40 → (∀ d, d < X 3 5 t → Y (40 * t + d) = (nI (purse (monN (X 0) d) f)).toInt64) → ∀ X', Xp X X' (X 0) → Q (some (.int (nI 0))) (hp S N X' Y)) : Cn 11 yX4_read cX4_read 5 (some .int) [.ref 69, .int x, .int y] (hp S N X Y) Q := by
  refine cn_of (own := RX4) (lo := [some (.ref 69), some (.int x), some (.int y), none, none]) 2 rfl (by decide +kernel) rfl (Nat.le_of_ble_eq_true rfl) ?_
  rcases wn_cs (X := X) x with h | ⟨t, ht, rfl, h⟩ | ⟨t, ht, rfl, h⟩
  · exact r_read_B hsh h (hB h)
  · exact r_read_M hsh ht h (hM t ht rfl h)
  · exact r_read_O hw hl hsh ht h (hI t ht rfl h) (hS t ht rfl h) (hY t ht rfl h) (hO t ht rfl h)
