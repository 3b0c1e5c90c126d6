theorem Xc.lb {X X1 : St} {M1 : Mk} (g : Xc (uk X 2 (X 0)) X1 M1) : Xp X (uk X1 0 (X1 2)) (X 0) :=
  (((Xp.by2 (X 0)).tr g.p).back (M := X1 2)).to (g.2.2.1.trans (uk_s _ _ _))
theorem Xc.bk {X X1 : St} {M1 : Mk} (g : Xc X X1 M1) : Xc X (uk X1 0 (X1 2)) (X 2) :=
  ⟨(uk_s _ _ _).trans g.2.2.1, (uk_o _ _ (by decide)).trans g.2.1, (uk_o _ _ (by decide)).trans g.2.2.1, fun j a b => by rw [uk_o _ _ (by decide)]; exact g.2.2.2 j a b⟩

set_option maxHeartbeats 4000000 in
set_option maxRecDepth 100000 in
theorem r_on {S : St} {N : Nat → Nat → Int64} {X : St} {Y : Nat → Int64} {Q : Option Value → AH → Prop} {x z : Int32} (hw : WF (X 0)) (hl : WL (X 0)) (hB : ¬ (ic (X 0) x ∧ rg z 0 120) → ∀ X', Xf X X' 0 → Q (some (.int (-1000000001))) (hp S N X' Y)) (hS : ∀ c n, c < X 0 13 0 → n ≤ 120 → x = nI c → z = nI n → 9999 < X 0 13 2 + n → ∀ X', Xf X X' 4 → Q (some (.int (-1000000005))) (hp S N X' Y)) (hO : ∀ c n, c < X 0 13 0 → n ≤ 120 → x = nI c → z = nI n → ¬ 9999 < X 0 13 2 + n → ∀ X', Xp X X' (X 0) → Q (some (.int (nI (monN (X 0) n 2 c)))) (hp S N X' Y)) : Cn 10 yX4_on cX4_on 4 (some .int) [.ref 69, .int x, .int z] (hp S N X Y) Q := by
  refine cn_of (own := RX4) (lo := [some (.ref 69), some (.int x), some (.int z), none]) 1 rfl (by decide +kernel) rfl (Nat.le_of_ble_eq_true rfl) ?_
  refine go_aloadn0 (q := 1) dX4_on_0 rfl ?_
  refine go_iloadn1 (q := 2) dX4_on_1 rfl ?_
  refine go_ix1 (q := 5) dX4_on_2 lk_X4_87 (by decide) (by decide) (Nat.le_of_ble_eq_true rfl) rfl (r_isCoin hw ?_)
  refine go_ifeqB (tgt := 20) (q := 8) dX4_on_5 (by decide) rfl (fun h1 => ?_) (fun h1 => ?_)
  · skip
    refine go_aloadn0 (q := 21) dX4_on_20 rfl ?_
    refine go_ldc (q := 23) dX4_on_21 ko_X4_42 rfl ?_
    refine go_ix1 (q := 26) dX4_on_23 lk_X4_57 (by decide) (by decide) (Nat.le_of_ble_eq_true rfl) rfl (r_finds (p := 0) (by decide) (by decide) ?_)
    exact go_iret dX4_on_26 rfl (hB (fun w => h1 w.1) _ (Xf.rf 0))
  · skip
    refine go_iloadn2 (q := 9) dX4_on_8 rfl ?_
    refine go_i2l (q := 10) dX4_on_9 rfl ?_
    refine go_lconst (q := 11) dX4_on_10 rfl ?_
    refine go_ldc2 (q := 14) dX4_on_11 ko_X4_137 rfl ?_
    refine go_is3_ (q := 17) dX4_on_14 lk_X4_49 (by decide) (by decide) (Nat.le_of_ble_eq_true rfl) rfl (r_isIn (l := 0) (m := 120) (by decide) (by decide) ?_)
    refine go_ifneB (tgt := 27) (q := 20) dX4_on_17 (by decide) rfl (fun h2 => ?_) (fun h2 => ?_)
    · skip
      obtain ⟨c, hc, hc12, rfl⟩ := ic_nat h1 hw
      obtain ⟨n, hn, rfl, hn1, -⟩ := rg_nat (n := 120) h2 (by omega) (by omega)
      refine go_aloadn0 (q := 28) dX4_on_27 rfl ?_
      refine go_iloadn2 (q := 29) dX4_on_28 rfl ?_
      refine go_ix1 (q := 32) dX4_on_29 lk_X4_139 (by decide) (by decide) (Nat.le_of_ble_eq_true rfl) rfl (r_isFar hw (by omega) ?_)
      refine go_ifeqB (tgt := 42) (q := 35) dX4_on_32 (by decide) rfl (fun h3 => ?_) (fun h3 => ?_)
      · skip
        refine go_aloadn0 (q := 43) dX4_on_42 rfl ?_
        refine go_ix0 (q := 46) dX4_on_43 lk_X4_160 (by decide) (by decide) (Nat.le_of_ble_eq_true rfl) rfl (r_laysBy ?_)
        refine go_aloadn0 (q := 47) dX4_on_46 rfl ?_
        refine go_iloadn2 (q := 48) dX4_on_47 rfl ?_
        refine go_ix1 (q := 51) dX4_on_48 lk_X4_152 (by decide) (by decide) (Nat.le_of_ble_eq_true rfl) rfl (r_goesOnMany (X := uk X 2 (X 0)) hw hl (by omega) (by show X 0 13 2 + n ≤ 10000; omega) (fun X1 g1 => ?_))
        have e1 : X1 0 = monN (X 0) n := g1.1
        have hw1 : WF (X1 0) := by rw [e1]; exact (wf_monN hw (n := n) (by omega)).1
        refine go_aloadn0 (q := 52) dX4_on_51 rfl ?_
        refine go_iloadn1 (q := 53) dX4_on_52 rfl ?_
        refine go_iconstN (n := 2) (q := 54) dX4_on_53 rfl ?_
        refine go_ix2 (q := 57) dX4_on_54 lk_X4_84 (by decide) (by decide) (Nat.le_of_ble_eq_true rfl) rfl (r_is hc12 (by decide) ?_)
        rw [e1]
        refine go_istoren3 (q := 58) dX4_on_57 rfl (by decide) rfl ?_
        refine go_aloadn0 (q := 59) dX4_on_58 rfl ?_
        refine go_ix0 (q := 62) dX4_on_59 lk_X4_163 (by decide) (by decide) (Nat.le_of_ble_eq_true rfl) rfl (r_laysBack ?_)
        refine go_iloadn3 (q := 63) dX4_on_62 rfl ?_
        exact go_iret dX4_on_63 rfl (hO c n hc hn rfl rfl h3 _ g1.lb)
      · skip
        refine go_aloadn0 (q := 36) dX4_on_35 rfl ?_
        refine go_ldc (q := 38) dX4_on_36 ko_X4_119 rfl ?_
        refine go_ix1 (q := 41) dX4_on_38 lk_X4_57 (by decide) (by decide) (Nat.le_of_ble_eq_true rfl) rfl (r_finds (p := 4) (by decide) (by decide) ?_)
        exact go_iret dX4_on_41 rfl (hS c n hc hn rfl rfl h3 _ (Xf.rf 4))
    · skip
      refine go_aloadn0 (q := 21) dX4_on_20 rfl ?_
      refine go_ldc (q := 23) dX4_on_21 ko_X4_42 rfl ?_
      refine go_ix1 (q := 26) dX4_on_23 lk_X4_57 (by decide) (by decide) (Nat.le_of_ble_eq_true rfl) rfl (r_finds (p := 0) (by decide) (by decide) ?_)
      exact go_iret dX4_on_26 rfl (hB (fun w => h2 w.2) _ (Xf.rf 0))

set_option maxHeartbeats 4000000 in
set_option maxRecDepth 100000 in
theorem r_purseOn {S : St} {N : Nat → Nat → Int64} {X : St} {Y : Nat → Int64} {Q : Option Value → AH → Prop} {x z : Int32} (hw : WF (X 0)) (hl : WL (X 0)) (hB : ¬ (rg x 0 3 ∧ rg z 0 120) → ∀ X', Xf X X' 0 → Q (some (.int (-1000000001))) (hp S N X' Y)) (hS : ∀ f n, f ≤ 3 → n ≤ 120 → x = nI f → z = nI n → 9999 < X 0 13 2 + n → ∀ X', Xf X X' 4 → Q (some (.int (-1000000005))) (hp S N X' Y)) (hO : ∀ f n, f ≤ 3 → n ≤ 120 → x = nI f → z = nI n → ¬ 9999 < X 0 13 2 + n → ∀ X', Xp X X' (X 0) → Q (some (.int (nI (purse (monN (X 0) n) f)))) (hp S N X' Y)) : Cn 10 yX4_purseOn cX4_purseOn 4 (some .int) [.ref 69, .int x, .int z] (hp S N X Y) Q := by
  refine cn_of (own := RX4) (lo := [some (.ref 69), some (.int x), some (.int z), none]) 1 rfl (by decide +kernel) rfl (Nat.le_of_ble_eq_true rfl) ?_
  refine go_iloadn1 (q := 1) dX4_purseOn_0 rfl ?_
  refine go_is1_ (q := 4) dX4_purseOn_1 lk_X4_43 (by decide) (by decide) (Nat.le_of_ble_eq_true rfl) rfl (r_isOwner ?_)
  refine go_ifeqB (tgt := 19) (q := 7) dX4_purseOn_4 (by decide) rfl (fun h1 => ?_) (fun h1 => ?_)
  · skip
    refine go_aloadn0 (q := 20) dX4_purseOn_19 rfl ?_
    refine go_ldc (q := 22) dX4_purseOn_20 ko_X4_42 rfl ?_
    refine go_ix1 (q := 25) dX4_purseOn_22 lk_X4_57 (by decide) (by decide) (Nat.le_of_ble_eq_true rfl) rfl (r_finds (p := 0) (by decide) (by decide) ?_)
    exact go_iret dX4_purseOn_25 rfl (hB (fun w => h1 w.1) _ (Xf.rf 0))
  · skip
    refine go_iloadn2 (q := 8) dX4_purseOn_7 rfl ?_
    refine go_i2l (q := 9) dX4_purseOn_8 rfl ?_
    refine go_lconst (q := 10) dX4_purseOn_9 rfl ?_
    refine go_ldc2 (q := 13) dX4_purseOn_10 ko_X4_137 rfl ?_
    refine go_is3_ (q := 16) dX4_purseOn_13 lk_X4_49 (by decide) (by decide) (Nat.le_of_ble_eq_true rfl) rfl (r_isIn (l := 0) (m := 120) (by decide) (by decide) ?_)
    refine go_ifneB (tgt := 26) (q := 19) dX4_purseOn_16 (by decide) rfl (fun h2 => ?_) (fun h2 => ?_)
    · skip
      obtain ⟨f, hf, rfl, -, -⟩ := rg_nat (n := 3) h1 (by omega) (by omega)
      obtain ⟨n, hn, rfl, hn1, -⟩ := rg_nat (n := 120) h2 (by omega) (by omega)
      refine go_aloadn0 (q := 27) dX4_purseOn_26 rfl ?_
      refine go_iloadn2 (q := 28) dX4_purseOn_27 rfl ?_
      refine go_ix1 (q := 31) dX4_purseOn_28 lk_X4_139 (by decide) (by decide) (Nat.le_of_ble_eq_true rfl) rfl (r_isFar hw (by omega) ?_)
      refine go_ifeqB (tgt := 41) (q := 34) dX4_purseOn_31 (by decide) rfl (fun h3 => ?_) (fun h3 => ?_)
      · skip
        refine go_aloadn0 (q := 42) dX4_purseOn_41 rfl ?_
        refine go_ix0 (q := 45) dX4_purseOn_42 lk_X4_160 (by decide) (by decide) (Nat.le_of_ble_eq_true rfl) rfl (r_laysBy ?_)
        refine go_aloadn0 (q := 46) dX4_purseOn_45 rfl ?_
        refine go_iloadn2 (q := 47) dX4_purseOn_46 rfl ?_
        refine go_ix1 (q := 50) dX4_purseOn_47 lk_X4_152 (by decide) (by decide) (Nat.le_of_ble_eq_true rfl) rfl (r_goesOnMany (X := uk X 2 (X 0)) hw hl (by omega) (by show X 0 13 2 + n ≤ 10000; omega) (fun X1 g1 => ?_))
        have e1 : X1 0 = monN (X 0) n := g1.1
        have hw1 : WF (X1 0) := by rw [e1]; exact (wf_monN hw (n := n) (by omega)).1
        refine go_aloadn0 (q := 51) dX4_purseOn_50 rfl ?_
        refine go_iloadn1 (q := 52) dX4_purseOn_51 rfl ?_
        refine go_ix1 (q := 55) dX4_purseOn_52 lk_X4_120 (by decide) (by decide) (Nat.le_of_ble_eq_true rfl) rfl (r_purseOf hw1 (by omega) ?_)
        rw [e1]
        refine go_istoren3 (q := 56) dX4_purseOn_55 rfl (by decide) rfl ?_
        refine go_aloadn0 (q := 57) dX4_purseOn_56 rfl ?_
        refine go_ix0 (q := 60) dX4_purseOn_57 lk_X4_163 (by decide) (by decide) (Nat.le_of_ble_eq_true rfl) rfl (r_laysBack ?_)
        refine go_iloadn3 (q := 61) dX4_purseOn_60 rfl ?_
        exact go_iret dX4_purseOn_61 rfl (hO f n hf hn rfl rfl h3 _ g1.lb)
      · skip
        refine go_aloadn0 (q := 35) dX4_purseOn_34 rfl ?_
        refine go_ldc (q := 37) dX4_purseOn_35 ko_X4_119 rfl ?_
        refine go_ix1 (q := 40) dX4_purseOn_37 lk_X4_57 (by decide) (by decide) (Nat.le_of_ble_eq_true rfl) rfl (r_finds (p := 4) (by decide) (by decide) ?_)
        exact go_iret dX4_purseOn_40 rfl (hS f n hf hn rfl rfl h3 _ (Xf.rf 4))
    · skip
      refine go_aloadn0 (q := 20) dX4_purseOn_19 rfl ?_
      refine go_ldc (q := 22) dX4_purseOn_20 ko_X4_42 rfl ?_
      refine go_ix1 (q := 25) dX4_purseOn_22 lk_X4_57 (by decide) (by decide) (Nat.le_of_ble_eq_true rfl) rfl (r_finds (p := 0) (by decide) (by decide) ?_)
      exact go_iret dX4_purseOn_25 rfl (hB (fun w => h2 w.2) _ (Xf.rf 0))

set_option maxHeartbeats 4000000 in
set_option maxRecDepth 100000 in
theorem r_lacks {S : St} {N : Nat → Nat → Int64} {X : St} {Y : Nat → Int64} {Q : Option Value → AH → Prop} {z : Int32} (hw : WF (X 0)) (hl : WL (X 0)) (hB : ¬ rg z 0 120 → ∀ X', Xf X X' 0 → Q (some (.int (-1000000001))) (hp S N X' Y)) (hS : ∀ n, n ≤ 120 → z = nI n → 9999 < X 0 13 2 + n → ∀ X', Xf X X' 4 → Q (some (.int (-1000000005))) (hp S N X' Y)) (hO : ∀ n, n ≤ 120 → z = nI n → ¬ 9999 < X 0 13 2 + n → ∀ X', Xp X X' (X 0) → Q (some (.int (nI (monN (X 0) n 13 3) - nI (X 0 13 3)))) (hp S N X' Y)) : Cn 10 yX4_lacks cX4_lacks 3 (some .int) [.ref 69, .int z] (hp S N X Y) Q := by
  refine cn_of (own := RX4) (lo := [some (.ref 69), some (.int z), none]) 1 rfl (by decide +kernel) rfl (Nat.le_of_ble_eq_true rfl) ?_
  refine go_iloadn1 (q := 1) dX4_lacks_0 rfl ?_
  refine go_i2l (q := 2) dX4_lacks_1 rfl ?_
  refine go_lconst (q := 3) dX4_lacks_2 rfl ?_
  refine go_ldc2 (q := 6) dX4_lacks_3 ko_X4_137 rfl ?_
  refine go_is3_ (q := 9) dX4_lacks_6 lk_X4_49 (by decide) (by decide) (Nat.le_of_ble_eq_true rfl) rfl (r_isIn (l := 0) (m := 120) (by decide) (by decide) ?_)
  refine go_ifneB (tgt := 19) (q := 12) dX4_lacks_9 (by decide) rfl (fun h1 => ?_) (fun h1 => ?_)
  · skip
    obtain ⟨n, hn, rfl, hn1, -⟩ := rg_nat (n := 120) h1 (by omega) (by omega)
    refine go_aloadn0 (q := 20) dX4_lacks_19 rfl ?_
    refine go_iloadn1 (q := 21) dX4_lacks_20 rfl ?_
    refine go_ix1 (q := 24) dX4_lacks_21 lk_X4_139 (by decide) (by decide) (Nat.le_of_ble_eq_true rfl) rfl (r_isFar hw (by omega) ?_)
    refine go_ifeqB (tgt := 34) (q := 27) dX4_lacks_24 (by decide) rfl (fun h3 => ?_) (fun h3 => ?_)
    · skip
      refine go_aloadn0 (q := 35) dX4_lacks_34 rfl ?_
      refine go_ix0 (q := 38) dX4_lacks_35 lk_X4_160 (by decide) (by decide) (Nat.le_of_ble_eq_true rfl) rfl (r_laysBy ?_)
      refine go_aloadn0 (q := 39) dX4_lacks_38 rfl ?_
      refine go_iloadn1 (q := 40) dX4_lacks_39 rfl ?_
      refine go_ix1 (q := 43) dX4_lacks_40 lk_X4_152 (by decide) (by decide) (Nat.le_of_ble_eq_true rfl) rfl (r_goesOnMany (X := uk X 2 (X 0)) hw hl (by omega) (by show X 0 13 2 + n ≤ 10000; omega) (fun X1 g1 => ?_))
      have e1 : X1 0 = monN (X 0) n := g1.1
      have hw1 : WF (X1 0) := by rw [e1]; exact (wf_monN hw (n := n) (by omega)).1
      refine go_aloadn0 (q := 44) dX4_lacks_43 rfl ?_
      refine go_xg (q := 47) dX4_lacks_44 fl_X4_7 rfl rfl ?_
      refine go_iconstN (n := 3) (q := 48) dX4_lacks_47 rfl ?_
      refine go_rld (q := 49) dX4_lacks_48 (rr_13 (f := 3) (by decide)) rfl ?_
      rw [e1]
      refine go_istoren2 (q := 50) dX4_lacks_49 rfl (by decide) rfl ?_
      refine go_aloadn0 (q := 51) dX4_lacks_50 rfl ?_
      refine go_ix0 (q := 54) dX4_lacks_51 lk_X4_163 (by decide) (by decide) (Nat.le_of_ble_eq_true rfl) rfl (r_laysBack ?_)
      refine go_iloadn2 (q := 55) dX4_lacks_54 rfl ?_
      refine go_aloadn0 (q := 56) dX4_lacks_55 rfl ?_
      refine go_xg (q := 59) dX4_lacks_56 fl_X4_7 rfl rfl ?_
      refine go_iconstN (n := 3) (q := 60) dX4_lacks_59 rfl ?_
      refine go_rld (q := 61) dX4_lacks_60 (rr_13 (f := 3) (by decide)) rfl ?_
      rw [g1.lb.1]
      refine go_isub (q := 62) dX4_lacks_61 rfl ?_
      exact go_iret dX4_lacks_62 rfl (hO n hn rfl h3 _ g1.lb)
    · skip
      refine go_aloadn0 (q := 28) dX4_lacks_27 rfl ?_
      refine go_ldc (q := 30) dX4_lacks_28 ko_X4_119 rfl ?_
      refine go_ix1 (q := 33) dX4_lacks_30 lk_X4_57 (by decide) (by decide) (Nat.le_of_ble_eq_true rfl) rfl (r_finds (p := 4) (by decide) (by decide) ?_)
      exact go_iret dX4_lacks_33 rfl (hS n hn rfl h3 _ (Xf.rf 4))
  · skip
    refine go_aloadn0 (q := 13) dX4_lacks_12 rfl ?_
    refine go_ldc (q := 15) dX4_lacks_13 ko_X4_42 rfl ?_
    refine go_ix1 (q := 18) dX4_lacks_15 lk_X4_57 (by decide) (by decide) (Nat.le_of_ble_eq_true rfl) rfl (r_finds (p := 0) (by decide) (by decide) ?_)
    exact go_iret dX4_lacks_18 rfl (hB h1 _ (Xf.rf 0))

set_option maxHeartbeats 4000000 in
set_option maxRecDepth 100000 in
theorem r_rich_47 {S : St} {N : Nat → Nat → Int64} {X : St} {Y : Nat → Int64} {Q : Option Value → AH → Prop} {n : Nat} {X1 : St} (hw : WF (X 0)) (hn : n ≤ 120) (hm : X 0 13 2 + n ≤ 10000) (g1 : Xc (uk X 2 (X 0)) X1 (monN (X 0) n)) (hO : ∀ X', Xp X X' (X 0) → Q (some (.int (nI (rch (purse (monN (X 0) n)) 3)))) (hp S N X' Y)) : ∀ (fu : Nat) (f b : Nat), 4 - f < fu → (1 ≤ f) → (f ≤ 4) → (rch (purse (monN (X 0) n)) (f - 1) = b) → (b ≤ 3) → Go 10 RX4 cX4_rich 4 (some .int) 47 [some (.ref 69), some (.int (nI n)), some (.int (nI b)), some (.int (nI f))] [] (hp S N X1 Y) Q := by
  intro fu
  induction fu with
  | zero => intro f b hfu; exact absurd hfu (Nat.not_lt_zero _)
  | succ fu ih =>
    intro f b hfu hf1 hf hb hb3
    have e1 : X1 0 = monN (X 0) n := g1.1
    have hw1 : WF (X1 0) := by rw [e1]; exact (wf_monN hw (n := n) (by omega)).1
    have hp1 := purse_le hw1 f
    have hp2 := purse_le hw1 b
    refine go_iloadn3 (q := 48) dX4_rich_47 rfl ?_
    refine go_iconstN (n := 4) (q := 49) dX4_rich_48 rfl ?_
    refine go_icmp_geN (tgt := 77) (q := 52) dX4_rich_49 (by decide) rfl (by omega) (by omega) (fun h1 => ?_) (fun h1 => ?_)
    · skip
      refine go_aloadn0 (q := 78) dX4_rich_77 rfl ?_
      refine go_ix0 (q := 81) dX4_rich_78 lk_X4_163 (by decide) (by decide) (Nat.le_of_ble_eq_true rfl) rfl (r_laysBack ?_)
      refine go_iloadn2 (q := 82) dX4_rich_81 rfl ?_
      exact go_iretN dX4_rich_82 rfl (by rw [← hb, show f - 1 = 3 by omega]) (hO _ g1.lb)
    · skip
      refine go_aloadn0 (q := 53) dX4_rich_52 rfl ?_
      refine go_iloadn3 (q := 54) dX4_rich_53 rfl ?_
      refine go_ix1 (q := 57) dX4_rich_54 lk_X4_120 (by decide) (by decide) (Nat.le_of_ble_eq_true rfl) rfl (r_purseOf hw1 (by omega) ?_)
      refine go_aloadn0 (q := 58) dX4_rich_57 rfl ?_
      refine go_iloadn2 (q := 59) dX4_rich_58 rfl ?_
      refine go_ix1 (q := 62) dX4_rich_59 lk_X4_120 (by decide) (by decide) (Nat.le_of_ble_eq_true rfl) rfl (r_purseOf hw1 (by omega) ?_)
      refine go_icmp_leN (tgt := 69) (q := 65) dX4_rich_62 (by decide) rfl (by omega) (by omega) (fun h2 => ?_) (fun h2 => ?_)
      · skip
        refine go_iloadn2 (q := 70) dX4_rich_69 rfl ?_
        refine go_istoren2 (q := 71) dX4_rich_70 rfl (by decide) rfl ?_
        refine go_iincN3 (n := 1) (q := 74) dX4_rich_71 rfl (by decide) rfl ?_
        refine go_goto (tgt := 47) dX4_rich_74 (by decide) ?_
        exact ih (f + 1) b (by omega) (by omega) (by omega) (by rw [show f + 1 - 1 = (f - 1) + 1 by omega]; unfold rch; rw [hb, show f - 1 + 1 = f by omega, if_neg (by rw [← e1]; omega)]) hb3
      · skip
        refine go_iloadn3 (q := 66) dX4_rich_65 rfl ?_
        refine go_goto (tgt := 70) dX4_rich_66 (by decide) ?_
        refine go_istoren2 (q := 71) dX4_rich_70 rfl (by decide) rfl ?_
        refine go_iincN3 (n := 1) (q := 74) dX4_rich_71 rfl (by decide) rfl ?_
        refine go_goto (tgt := 47) dX4_rich_74 (by decide) ?_
        exact ih (f + 1) f (by omega) (by omega) (by omega) (by rw [show f + 1 - 1 = (f - 1) + 1 by omega]; unfold rch; rw [hb, show f - 1 + 1 = f by omega, if_pos (by rw [← e1]; omega)]) (by omega)

set_option maxHeartbeats 4000000 in
set_option maxRecDepth 100000 in
theorem r_rich {S : St} {N : Nat → Nat → Int64} {X : St} {Y : Nat → Int64} {Q : Option Value → AH → Prop} {z : Int32} (hw : WF (X 0)) (hl : WL (X 0)) (hB : ¬ rg z 0 120 → ∀ X', Xf X X' 0 → Q (some (.int (-1000000001))) (hp S N X' Y)) (hS : ∀ n, n ≤ 120 → z = nI n → 9999 < X 0 13 2 + n → ∀ X', Xf X X' 4 → Q (some (.int (-1000000005))) (hp S N X' Y)) (hO : ∀ n, n ≤ 120 → z = nI n → ¬ 9999 < X 0 13 2 + n → ∀ X', Xp X X' (X 0) → Q (some (.int (nI (rch (purse (monN (X 0) n)) 3)))) (hp S N X' Y)) : Cn 10 yX4_rich cX4_rich 4 (some .int) [.ref 69, .int z] (hp S N X Y) Q := by
  refine cn_of (own := RX4) (lo := [some (.ref 69), some (.int z), none, none]) 2 rfl (by decide +kernel) rfl (Nat.le_of_ble_eq_true rfl) ?_
  refine go_iloadn1 (q := 1) dX4_rich_0 rfl ?_
  refine go_i2l (q := 2) dX4_rich_1 rfl ?_
  refine go_lconst (q := 3) dX4_rich_2 rfl ?_
  refine go_ldc2 (q := 6) dX4_rich_3 ko_X4_137 rfl ?_
  refine go_is3_ (q := 9) dX4_rich_6 lk_X4_49 (by decide) (by decide) (Nat.le_of_ble_eq_true rfl) rfl (r_isIn (l := 0) (m := 120) (by decide) (by decide) ?_)
  refine go_ifneB (tgt := 19) (q := 12) dX4_rich_9 (by decide) rfl (fun h1 => ?_) (fun h1 => ?_)
  · skip
    obtain ⟨n, hn, rfl, hn1, -⟩ := rg_nat (n := 120) h1 (by omega) (by omega)
    refine go_aloadn0 (q := 20) dX4_rich_19 rfl ?_
    refine go_iloadn1 (q := 21) dX4_rich_20 rfl ?_
    refine go_ix1 (q := 24) dX4_rich_21 lk_X4_139 (by decide) (by decide) (Nat.le_of_ble_eq_true rfl) rfl (r_isFar hw (by omega) ?_)
    refine go_ifeqB (tgt := 34) (q := 27) dX4_rich_24 (by decide) rfl (fun h3 => ?_) (fun h3 => ?_)
    · skip
      refine go_aloadn0 (q := 35) dX4_rich_34 rfl ?_
      refine go_ix0 (q := 38) dX4_rich_35 lk_X4_160 (by decide) (by decide) (Nat.le_of_ble_eq_true rfl) rfl (r_laysBy ?_)
      refine go_aloadn0 (q := 39) dX4_rich_38 rfl ?_
      refine go_iloadn1 (q := 40) dX4_rich_39 rfl ?_
      refine go_ix1 (q := 43) dX4_rich_40 lk_X4_152 (by decide) (by decide) (Nat.le_of_ble_eq_true rfl) rfl (r_goesOnMany (X := uk X 2 (X 0)) hw hl (by omega) (by show X 0 13 2 + n ≤ 10000; omega) (fun X1 g1 => ?_))
      have e1 : X1 0 = monN (X 0) n := g1.1
      have hw1 : WF (X1 0) := by rw [e1]; exact (wf_monN hw (n := n) (by omega)).1
      refine go_iconstN (n := 0) (q := 44) dX4_rich_43 rfl ?_
      refine go_istoren2 (q := 45) dX4_rich_44 rfl (by decide) rfl ?_
      refine go_iconstN (n := 1) (q := 46) dX4_rich_45 rfl ?_
      refine go_istoren3 (q := 47) dX4_rich_46 rfl (by decide) rfl ?_
      exact r_rich_47 hw hn (by omega) g1 (hO n hn rfl h3) 4 1 0 (by omega) (by omega) (by omega) rfl (by omega)
    · skip
      refine go_aloadn0 (q := 28) dX4_rich_27 rfl ?_
      refine go_ldc (q := 30) dX4_rich_28 ko_X4_119 rfl ?_
      refine go_ix1 (q := 33) dX4_rich_30 lk_X4_57 (by decide) (by decide) (Nat.le_of_ble_eq_true rfl) rfl (r_finds (p := 4) (by decide) (by decide) ?_)
      exact go_iret dX4_rich_33 rfl (hS n hn rfl h3 _ (Xf.rf 4))
  · skip
    refine go_aloadn0 (q := 13) dX4_rich_12 rfl ?_
    refine go_ldc (q := 15) dX4_rich_13 ko_X4_42 rfl ?_
    refine go_ix1 (q := 18) dX4_rich_15 lk_X4_57 (by decide) (by decide) (Nat.le_of_ble_eq_true rfl) rfl (r_finds (p := 0) (by decide) (by decide) ?_)
    exact go_iret dX4_rich_18 rfl (hB h1 _ (Xf.rf 0))

set_option maxHeartbeats 4000000 in
set_option maxRecDepth 100000 in
theorem r_worthOn {S : St} {N : Nat → Nat → Int64} {X : St} {Y : Nat → Int64} {Q : Option Value → AH → Prop} {c n : Nat} (hw : WF (X 0)) (hl : WL (X 0)) (hc : c < 12) (hn : n < 2 ^ 31) (hm : X 0 13 2 + n ≤ 10000) (hO : ∀ X', Xc X X' (X 2) → Q (some (.int (nI (wrt (monN (X 0) n) c)))) (hp S N X' Y)) : Cn 10 yX4_worthOn cX4_worthOn 4 (some .int) [.ref 69, .int (nI c), .int (nI n)] (hp S N X Y) Q := by
  refine cn_of (own := RX4) (lo := [some (.ref 69), some (.int (nI c)), some (.int (nI n)), none]) 1 rfl (by decide +kernel) rfl (Nat.le_of_ble_eq_true rfl) ?_
  refine go_aloadn0 (q := 1) dX4_worthOn_0 rfl ?_
  refine go_iloadn2 (q := 2) dX4_worthOn_1 rfl ?_
  refine go_ix1 (q := 5) dX4_worthOn_2 lk_X4_152 (by decide) (by decide) (Nat.le_of_ble_eq_true rfl) rfl (r_goesOnMany hw hl hn hm (fun X1 g1 => ?_))
  have hw1 : WF (X1 0) := by rw [g1.1]; exact (wf_monN hw (n := n) hm).1
  refine go_aloadn0 (q := 6) dX4_worthOn_5 rfl ?_
  refine go_iloadn1 (q := 7) dX4_worthOn_6 rfl ?_
  refine go_ix1 (q := 10) dX4_worthOn_7 lk_X4_92 (by decide) (by decide) (Nat.le_of_ble_eq_true rfl) rfl (r_worth hw1 hc ?_)
  rw [g1.1]
  refine go_istoren3 (q := 11) dX4_worthOn_10 rfl (by decide) rfl ?_
  refine go_aloadn0 (q := 12) dX4_worthOn_11 rfl ?_
  refine go_ix0 (q := 15) dX4_worthOn_12 lk_X4_163 (by decide) (by decide) (Nat.le_of_ble_eq_true rfl) rfl (r_laysBack ?_)
  refine go_iloadn3 (q := 16) dX4_worthOn_15 rfl ?_
  exact go_iret dX4_worthOn_16 rfl (hO _ g1.bk)
