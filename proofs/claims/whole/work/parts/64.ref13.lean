noncomputable def tmV (M : Mk) (t : Nat) : Nat := purse (monN (txd (monN M t) 4) (12 - t)) 0 + purse (monN (txd (monN M t) 4) (12 - t)) 1 + purse (monN (txd (monN M t) 4) (12 - t)) 2 + purse (monN (txd (monN M t) 4) (12 - t)) 3
theorem wl_txd {M : Mk} (h : WL M) (n : Nat) : WL (txd M n) := by
  intro i hi
  rw [txd_at (by decide)] at hi ⊢
  exact h i hi
theorem tmV_lt {M : Mk} (hw : WF M) {t : Nat} (ht : t ≤ 12) (hm : M 13 2 + 12 ≤ 10000) : tmV M t < 2 ^ 31 := by
  have f1 := wf_monN hw (n := t) (by omega)
  have f2 := wf_txd f1.1 4
  have m2 : txd (monN M t) 4 13 2 = M 13 2 + t := (txd_at (by decide)).trans f1.2
  have f3 := (wf_monN f2 (n := 12 - t) (by omega)).1
  have h0 := purse_le f3 0
  have h1 := purse_le f3 1
  have h2 := purse_le f3 2
  have h3 := purse_le f3 3
  unfold tmV
  omega

set_option maxHeartbeats 4000000 in
set_option maxRecDepth 100000 in
theorem r_taxMonth_32 {S : St} {N : Nat → Nat → Int64} {X : St} {Y : Nat → Int64} {Q : Option Value → AH → Prop} {t : Nat} {y1 y2 : Int32} {X1 : St} (hw : WF (X 0)) (hl : WL (X 0)) (hm : X 0 13 2 + 12 ≤ 10000) (ht : t < 12) (e1 : X1 0 = X 0) (e2 : X1 2 = X 0) (hK : ∀ X2, Xc X1 X2 (X 0) → Go 10 RX4 cX4_taxMonth 6 (some .int) 80 [some (.ref 69), some (.int y1), some (.int y2), some (.int (nI t)), none, some (.int (nI (tmV (X 0) t)))] [] (hp S N X2 Y) Q) : Go 10 RX4 cX4_taxMonth 6 (some .int) 32 [some (.ref 69), some (.int y1), some (.int y2), some (.int (nI t)), none, none] [] (hp S N X1 Y) Q := by
  have f1 := wf_monN hw (n := t) (by omega)
  have f2 := wf_txd f1.1 4
  have m2 : txd (monN (X 0) t) 4 13 2 = X 0 13 2 + t := (txd_at (by decide)).trans f1.2
  have f3 := wf_monN f2 (n := 12 - t) (by omega)
  refine go_aloadn0 (q := 33) dX4_taxMonth_32 rfl ?_
  refine go_iloadn3 (q := 34) dX4_taxMonth_33 rfl ?_
  refine go_ix1 (q := 37) dX4_taxMonth_34 lk_X4_152 (by decide) (by decide) (Nat.le_of_ble_eq_true rfl) rfl (r_goesOnMany (X := X1) (by rw [e1]; exact hw) (by rw [e1]; exact hl) (by omega) (by rw [e1]; omega) (fun X2 g2 => ?_))
  rw [e1] at g2
  refine go_aloadn0 (q := 38) dX4_taxMonth_37 rfl ?_
  refine go_ix0 (q := 41) dX4_taxMonth_38 lk_X4_184 (by decide) (by decide) (Nat.le_of_ble_eq_true rfl) rfl (r_tax (X := X2) (by rw [g2.1]; exact f1.1) (fun X3 g3 => ?_))
  rw [g2.1] at g3 ⊢
  refine go_istore4 (q := 43) dX4_taxMonth_41 rfl (by decide) rfl ?_
  refine go_aloadn0 (q := 44) dX4_taxMonth_43 rfl ?_
  refine go_bipushN (v := 12) (q := 46) dX4_taxMonth_44 (by decide) rfl ?_
  refine go_iloadn3 (q := 47) dX4_taxMonth_46 rfl ?_
  refine go_isubN (q := 48) dX4_taxMonth_47 (by omega) rfl ?_
  refine go_ix1 (q := 51) dX4_taxMonth_48 lk_X4_152 (by decide) (by decide) (Nat.le_of_ble_eq_true rfl) rfl (r_goesOnMany (X := X3) (by rw [g3.1]; exact f2) (by rw [g3.1]; exact wl_txd (wl_monN hl t) 4) (by omega) (by rw [g3.1]; omega) (fun X4 g4 => ?_))
  rw [g3.1] at g4
  have hw4 : WF (X4 0) := by rw [g4.1]; exact f3.1
  refine go_aloadn0 (q := 52) dX4_taxMonth_51 rfl ?_
  refine go_iconstN (n := 0) (q := 53) dX4_taxMonth_52 rfl ?_
  refine go_ix1 (q := 56) dX4_taxMonth_53 lk_X4_120 (by decide) (by decide) (Nat.le_of_ble_eq_true rfl) rfl (r_purseOf hw4 (by decide) ?_)
  refine go_aloadn0 (q := 57) dX4_taxMonth_56 rfl ?_
  refine go_iconstN (n := 1) (q := 58) dX4_taxMonth_57 rfl ?_
  refine go_ix1 (q := 61) dX4_taxMonth_58 lk_X4_120 (by decide) (by decide) (Nat.le_of_ble_eq_true rfl) rfl (r_purseOf hw4 (by decide) ?_)
  refine go_iaddN (q := 62) dX4_taxMonth_61 rfl ?_
  refine go_aloadn0 (q := 63) dX4_taxMonth_62 rfl ?_
  refine go_iconstN (n := 2) (q := 64) dX4_taxMonth_63 rfl ?_
  refine go_ix1 (q := 67) dX4_taxMonth_64 lk_X4_120 (by decide) (by decide) (Nat.le_of_ble_eq_true rfl) rfl (r_purseOf hw4 (by decide) ?_)
  refine go_iaddN (q := 68) dX4_taxMonth_67 rfl ?_
  refine go_aloadn0 (q := 69) dX4_taxMonth_68 rfl ?_
  refine go_iconstN (n := 3) (q := 70) dX4_taxMonth_69 rfl ?_
  refine go_ix1 (q := 73) dX4_taxMonth_70 lk_X4_120 (by decide) (by decide) (Nat.le_of_ble_eq_true rfl) rfl (r_purseOf hw4 (by decide) ?_)
  refine go_iaddN (q := 74) dX4_taxMonth_73 rfl ?_
  refine go_st (st' := [.int (nI (tmV (X 0) t))]) (by rw [g4.1]; rfl) ?_
  refine go_istore5 (q := 76) dX4_taxMonth_74 rfl (by decide) rfl ?_
  refine go_aloadn0 (q := 77) dX4_taxMonth_76 rfl ?_
  refine go_ix0 (q := 80) dX4_taxMonth_77 lk_X4_163 (by decide) (by decide) (Nat.le_of_ble_eq_true rfl) rfl (r_laysBack ?_)
  refine go_forget (lo' := [some (.ref 69), some (.int y1), some (.int y2), some (.int (nI t)), none, some (.int (nI (tmV (X 0) t)))]) (fun i v hi => by match i, hi with | 0, h => exact h | 1, h => exact h | 2, h => exact h | 3, h => exact h | 4, h => cases h | 5, h => exact h) ?_
  exact hK _ (((g2.tr g3).tr g4).bk.to e2)

set_option maxHeartbeats 4000000 in
set_option maxRecDepth 100000 in
theorem r_taxMonth_80 {S : St} {N : Nat → Nat → Int64} {X : St} {Y : Nat → Int64} {Q : Option Value → AH → Prop} {t b : Nat} (v1 : tmV (X 0) t < 2 ^ 31) (v2 : tmV (X 0) b < 2 ^ 31) {X2 : St} (hY : tmV (X 0) b < tmV (X 0) t → Go 10 RX4 cX4_taxMonth 6 (some .int) 26 [some (.ref 69), some (.int (nI t)), some (.int (nI (tmV (X 0) t))), some (.int (nI (t + 1))), none, none] [] (hp S N X2 Y) Q) (hZ : ¬ tmV (X 0) b < tmV (X 0) t → Go 10 RX4 cX4_taxMonth 6 (some .int) 26 [some (.ref 69), some (.int (nI b)), some (.int (nI (tmV (X 0) b))), some (.int (nI (t + 1))), none, none] [] (hp S N X2 Y) Q) : Go 10 RX4 cX4_taxMonth 6 (some .int) 80 [some (.ref 69), some (.int (nI b)), some (.int (nI (tmV (X 0) b))), some (.int (nI t)), none, some (.int (nI (tmV (X 0) t)))] [] (hp S N X2 Y) Q := by
  refine go_iload5 (q := 82) dX4_taxMonth_80 rfl ?_
  refine go_iloadn2 (q := 83) dX4_taxMonth_82 rfl ?_
  refine go_icmp_leN (tgt := 90) (q := 86) dX4_taxMonth_83 (by decide) rfl v1 v2 (fun h2 => ?_) (fun h2 => ?_)
  · skip
    refine go_iloadn1 (q := 91) dX4_taxMonth_90 rfl ?_
    refine go_istoren1 (q := 92) dX4_taxMonth_91 rfl (by decide) rfl ?_
    refine go_iload5 (q := 94) dX4_taxMonth_92 rfl ?_
    refine go_iloadn2 (q := 95) dX4_taxMonth_94 rfl ?_
    refine go_icmp_leN (tgt := 103) (q := 98) dX4_taxMonth_95 (by decide) rfl v1 v2 (fun h3 => ?_) (fun h3 => ?_)
    · skip
      refine go_iloadn2 (q := 104) dX4_taxMonth_103 rfl ?_
      refine go_istoren2 (q := 105) dX4_taxMonth_104 rfl (by decide) rfl ?_
      refine go_iincN3 (n := 1) (q := 108) dX4_taxMonth_105 rfl (by decide) rfl ?_
      refine go_goto (tgt := 26) dX4_taxMonth_108 (by decide) ?_
      refine go_forget (lo' := [some (.ref 69), some (.int (nI b)), some (.int (nI (tmV (X 0) b))), some (.int (nI (t + 1))), none, none]) (fun i v hi => by match i, hi with | 0, h => exact h | 1, h => exact h | 2, h => exact h | 3, h => exact h | 4, h => cases h | 5, h => cases h) ?_
      exact hZ (by omega)
    · skip
      exact absurd h2 h3
  · skip
    refine go_iloadn3 (q := 87) dX4_taxMonth_86 rfl ?_
    refine go_goto (tgt := 91) dX4_taxMonth_87 (by decide) ?_
    refine go_istoren1 (q := 92) dX4_taxMonth_91 rfl (by decide) rfl ?_
    refine go_iload5 (q := 94) dX4_taxMonth_92 rfl ?_
    refine go_iloadn2 (q := 95) dX4_taxMonth_94 rfl ?_
    refine go_icmp_leN (tgt := 103) (q := 98) dX4_taxMonth_95 (by decide) rfl v1 v2 (fun h3 => ?_) (fun h3 => ?_)
    · skip
      exact absurd h3 h2
    · skip
      refine go_iload5 (q := 100) dX4_taxMonth_98 rfl ?_
      refine go_goto (tgt := 104) dX4_taxMonth_100 (by decide) ?_
      refine go_istoren2 (q := 105) dX4_taxMonth_104 rfl (by decide) rfl ?_
      refine go_iincN3 (n := 1) (q := 108) dX4_taxMonth_105 rfl (by decide) rfl ?_
      refine go_goto (tgt := 26) dX4_taxMonth_108 (by decide) ?_
      refine go_forget (lo' := [some (.ref 69), some (.int (nI t)), some (.int (nI (tmV (X 0) t))), some (.int (nI (t + 1))), none, none]) (fun i v hi => by match i, hi with | 0, h => exact h | 1, h => exact h | 2, h => exact h | 3, h => exact h | 4, h => cases h | 5, h => cases h) ?_
      exact hY (by omega)

set_option maxHeartbeats 4000000 in
set_option maxRecDepth 100000 in
theorem r_taxMonth_26 {S : St} {N : Nat → Nat → Int64} {X : St} {Y : Nat → Int64} {Q : Option Value → AH → Prop} (hw : WF (X 0)) (hl : WL (X 0)) (hm : X 0 13 2 + 12 ≤ 10000) (hO : ∀ X', Xp X X' (X 0) → Q (some (.int (nI (rch (tmV (X 0)) 11)))) (hp S N X' Y)) : ∀ (fu : Nat) (t b : Nat) (X1 : St), 12 - t < fu → (1 ≤ t) → (t ≤ 12) → (Xc (uk X 2 (X 0)) X1 (X 0)) → (rch (tmV (X 0)) (t - 1) = b) → (b < t) → Go 10 RX4 cX4_taxMonth 6 (some .int) 26 [some (.ref 69), some (.int (nI b)), some (.int (nI (tmV (X 0) b))), some (.int (nI t)), none, none] [] (hp S N X1 Y) Q := by
  intro fu
  induction fu with
  | zero => intro t b X1 hfu; exact absurd hfu (Nat.not_lt_zero _)
  | succ fu ih =>
    intro t b X1 hfu ht1 ht g1 hb hb2
    refine go_iloadn3 (q := 27) dX4_taxMonth_26 rfl ?_
    refine go_bipushN (v := 12) (q := 29) dX4_taxMonth_27 (by decide) rfl ?_
    refine go_icmp_geN (tgt := 111) (q := 32) dX4_taxMonth_29 (by decide) rfl (by omega) (by omega) (fun h1 => ?_) (fun h1 => ?_)
    · skip
      refine go_iloadn1 (q := 112) dX4_taxMonth_111 rfl ?_
      exact go_iretN dX4_taxMonth_112 rfl (by rw [← hb, show t - 1 = 11 by omega]) (hO _ ((Xp.by2 (X 0)).tr g1.p))
    · skip
      refine r_taxMonth_32 hw hl hm (by omega) g1.1 g1.2.2.1 (fun X2 g2 => ?_)
      have v1 := tmV_lt hw (t := t) (by omega) hm
      have v2 := tmV_lt hw (t := b) (by omega) hm
      refine r_taxMonth_80 v1 v2 (fun hlt => ?_) (fun hlt => ?_)
      · exact ih (t + 1) t X2 (by omega) (by omega) (by omega) (g1.tr g2) (by rw [show t + 1 - 1 = (t - 1) + 1 by omega]; unfold rch; rw [hb, show t - 1 + 1 = t by omega, if_pos hlt]) (by omega)
      · exact ih (t + 1) b X2 (by omega) (by omega) (by omega) (g1.tr g2) (by rw [show t + 1 - 1 = (t - 1) + 1 by omega]; unfold rch; rw [hb, show t - 1 + 1 = t by omega, if_neg hlt]) (by omega)

set_option maxHeartbeats 4000000 in
set_option maxRecDepth 100000 in
theorem r_taxMonth_80z {S : St} {N : Nat → Nat → Int64} {X : St} {Y : Nat → Int64} {Q : Option Value → AH → Prop} (v1 : tmV (X 0) 0 < 2 ^ 31) {X2 : St} (hY : Go 10 RX4 cX4_taxMonth 6 (some .int) 26 [some (.ref 69), some (.int (nI 0)), some (.int (nI (tmV (X 0) 0))), some (.int (nI 1)), none, none] [] (hp S N X2 Y) Q) : Go 10 RX4 cX4_taxMonth 6 (some .int) 80 [some (.ref 69), some (.int (nI 0)), some (.int (-1)), some (.int (nI 0)), none, some (.int (nI (tmV (X 0) 0)))] [] (hp S N X2 Y) Q := by
  refine go_iload5 (q := 82) dX4_taxMonth_80 rfl ?_
  refine go_iloadn2 (q := 83) dX4_taxMonth_82 rfl ?_
  refine go_icmp_le (tgt := 90) (q := 86) dX4_taxMonth_83 (by decide) rfl (fun h2 => ?_) (fun h2 => ?_)
  · skip
    exact absurd h2 (nI_gm1 v1)
  · skip
    refine go_iloadn3 (q := 87) dX4_taxMonth_86 rfl ?_
    refine go_goto (tgt := 91) dX4_taxMonth_87 (by decide) ?_
    refine go_istoren1 (q := 92) dX4_taxMonth_91 rfl (by decide) rfl ?_
    refine go_iload5 (q := 94) dX4_taxMonth_92 rfl ?_
    refine go_iloadn2 (q := 95) dX4_taxMonth_94 rfl ?_
    refine go_icmp_le (tgt := 103) (q := 98) dX4_taxMonth_95 (by decide) rfl (fun h3 => ?_) (fun h3 => ?_)
    · skip
      exact absurd h3 (nI_gm1 v1)
    · skip
      refine go_iload5 (q := 100) dX4_taxMonth_98 rfl ?_
      refine go_goto (tgt := 104) dX4_taxMonth_100 (by decide) ?_
      refine go_istoren2 (q := 105) dX4_taxMonth_104 rfl (by decide) rfl ?_
      refine go_iincN3 (n := 1) (q := 108) dX4_taxMonth_105 rfl (by decide) rfl ?_
      refine go_goto (tgt := 26) dX4_taxMonth_108 (by decide) ?_
      refine go_forget (lo' := [some (.ref 69), some (.int (nI 0)), some (.int (nI (tmV (X 0) 0))), some (.int (nI 1)), none, none]) (fun i v hi => by match i, hi with | 0, h => exact h | 1, h => exact h | 2, h => exact h | 3, h => exact h | 4, h => cases h | 5, h => cases h) ?_
      exact hY

set_option maxHeartbeats 4000000 in
set_option maxRecDepth 100000 in
theorem r_taxMonth {S : St} {N : Nat → Nat → Int64} {X : St} {Y : Nat → Int64} {Q : Option Value → AH → Prop} (hw : WF (X 0)) (hl : WL (X 0)) (hS : 9999 < X 0 13 2 + 12 → ∀ X', Xf X X' 4 → Q (some (.int (-1000000005))) (hp S N X' Y)) (hO : ¬ 9999 < X 0 13 2 + 12 → ∀ X', Xp X X' (X 0) → Q (some (.int (nI (rch (tmV (X 0)) 11)))) (hp S N X' Y)) : Cn 10 yX4_taxMonth cX4_taxMonth 6 (some .int) [.ref 69] (hp S N X Y) Q := by
  refine cn_of (own := RX4) (lo := [some (.ref 69), none, none, none, none, none]) 5 rfl (by decide +kernel) rfl (Nat.le_of_ble_eq_true rfl) ?_
  refine go_aloadn0 (q := 1) dX4_taxMonth_0 rfl ?_
  refine go_bipushN (v := 12) (q := 3) dX4_taxMonth_1 (by decide) rfl ?_
  refine go_ix1 (q := 6) dX4_taxMonth_3 lk_X4_139 (by decide) (by decide) (Nat.le_of_ble_eq_true rfl) rfl (r_isFar hw (by omega) ?_)
  refine go_ifeqB (tgt := 16) (q := 9) dX4_taxMonth_6 (by decide) rfl (fun h3 => ?_) (fun h3 => ?_)
  · skip
    refine go_aloadn0 (q := 17) dX4_taxMonth_16 rfl ?_
    refine go_ix0 (q := 20) dX4_taxMonth_17 lk_X4_160 (by decide) (by decide) (Nat.le_of_ble_eq_true rfl) rfl (r_laysBy ?_)
    refine go_iconstN (n := 0) (q := 21) dX4_taxMonth_20 rfl ?_
    refine go_istoren1 (q := 22) dX4_taxMonth_21 rfl (by decide) rfl ?_
    refine go_iconstV (v := -1) (q := 23) dX4_taxMonth_22 (by decide) rfl ?_
    refine go_istoren2 (q := 24) dX4_taxMonth_23 rfl (by decide) rfl ?_
    refine go_iconstN (n := 0) (q := 25) dX4_taxMonth_24 rfl ?_
    refine go_istoren3 (q := 26) dX4_taxMonth_25 rfl (by decide) rfl ?_
    refine go_iloadn3 (q := 27) dX4_taxMonth_26 rfl ?_
    refine go_bipushN (v := 12) (q := 29) dX4_taxMonth_27 (by decide) rfl ?_
    refine go_icmp_geN (tgt := 111) (q := 32) dX4_taxMonth_29 (by decide) rfl (by omega) (by omega) (fun h4 => ?_) (fun h4 => ?_)
    · skip
      exact absurd h4 (by decide)
    · skip
      have hm : X 0 13 2 + 12 ≤ 10000 := by omega
      refine r_taxMonth_32 (X := X) hw hl hm (by decide) rfl rfl (fun X2 g2 => ?_)
      exact r_taxMonth_80z (tmV_lt hw (by omega) hm) (r_taxMonth_26 hw hl hm (hO h3) 13 1 0 X2 (by omega) (by omega) (by omega) g2 rfl (by omega))
  · skip
    refine go_aloadn0 (q := 10) dX4_taxMonth_9 rfl ?_
    refine go_ldc (q := 12) dX4_taxMonth_10 ko_X4_119 rfl ?_
    refine go_ix1 (q := 15) dX4_taxMonth_12 lk_X4_57 (by decide) (by decide) (Nat.le_of_ble_eq_true rfl) rfl (r_finds (p := 4) (by decide) (by decide) ?_)
    exact go_iret dX4_taxMonth_15 rfl (hS h3 _ (Xf.rf 4))
