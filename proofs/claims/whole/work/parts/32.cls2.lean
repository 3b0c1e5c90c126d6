set_option maxHeartbeats 4000000 in
set_option maxRecDepth 100000 in
theorem c_set_97 {S : St} {N : Nat → Nat → Int64} {X : St} {Y : Nat → Int64} {Q : Option Value → AH → Prop} {c j m : Nat} {w0 : Int32} {v : Int32} (hc : c < 12) (hj : j < 4) (hm : m ≤ 99) (hB : ¬ rg v 0 m → ∀ S', Cf S S' 0 → Q (some (.int (-1000000001))) (hp S' N X Y)) (hO : ∀ i, i ≤ m → v = nI i → ∀ S', Cc S S' (u2 (S 0) j c i) → Q (some (.int (nI (S 0 j c)))) (hp S' N X Y)) : Go 3 RX3 cX3_set 7 (some .int) 97 [some (.ref 0), some (.int (nI c)), some (.int w0), some (.int v), some (.ref (mr 0 j)), some (.int (nI m)), none] [] (hp S N X Y) Q := by
  have hj11 : j < 11 := by omega
  have hcm : c < mlen j := by unfold mlen; rw [if_neg (by omega), if_neg (by omega)]; exact hc
  refine go_iloadn3 (q := 98) dX3_set_97 rfl ?_
  refine go_iconstN (n := 0) (q := 99) dX3_set_98 rfl ?_
  refine go_iload5 (q := 101) dX3_set_99 rfl ?_
  refine go_is3_ (q := 104) dX3_set_101 lk_X3_51 (by decide) (by decide) (Nat.le_of_ble_eq_true rfl) rfl (c_isWithin (l := 0) (m := m) (by decide) (nI_toInt (by omega)) ?_)
  refine go_ifneB (tgt := 114) (q := 107) dX3_set_104 (by decide) rfl (fun h1 => ?_) (fun h1 => ?_)
  · skip
    obtain ⟨i, hi, rfl, -, -⟩ := rg_nat (n := m) h1 (by omega) (by omega)
    refine go_aload4 (q := 116) dX3_set_114 rfl ?_
    refine go_iloadn1 (q := 117) dX3_set_116 rfl ?_
    refine go_mld (q := 118) dX3_set_117 (by decide) hj11 hcm rfl ?_
    refine go_istore6 (q := 120) dX3_set_118 rfl (by decide) rfl ?_
    refine go_aload4 (q := 122) dX3_set_120 rfl ?_
    refine go_iloadn1 (q := 123) dX3_set_122 rfl ?_
    refine go_iloadn3 (q := 124) dX3_set_123 rfl ?_
    refine go_mst (q := 125) dX3_set_124 (by decide) hj11 hcm rfl ?_
    refine go_iload6 (q := 127) dX3_set_125 rfl ?_
    exact go_iret dX3_set_127 rfl (hO i hi rfl _ (Ch.rf.u j c i).here)
  · skip
    refine go_aloadn0 (q := 108) dX3_set_107 rfl ?_
    refine go_ldc (q := 110) dX3_set_108 ko_X3_55 rfl ?_
    refine go_ic1 (q := 113) dX3_set_110 lk_X3_56 (by decide) (by decide) (Nat.le_of_ble_eq_true rfl) rfl (c_finding (p := 0) (by decide) (by decide) ?_)
    exact go_iret dX3_set_113 rfl (hB h1 _ (Cf.rf 0))

set_option maxHeartbeats 4000000 in
set_option maxRecDepth 100000 in
theorem c_set {S : St} {N : Nat → Nat → Int64} {X : St} {Y : Nat → Int64} {Q : Option Value → AH → Prop} {x w v : Int32} (hw : WF (S 0)) (hB : ¬ (ic (S 0) x ∧ rg w 1 3 ∧ rg v 0 (if w = nI 1 then 3 else if w = nI 2 then 99 else 2)) → ∀ S', Cf S S' 0 → Q (some (.int (-1000000001))) (hp S' N X Y)) (hO : ∀ c j i, c < S 0 13 0 → 1 ≤ j ∧ j ≤ 3 → x = nI c → w = nI j → v = nI i → i ≤ (if j = 1 then 3 else if j = 2 then 99 else 2) → ∀ S', Cc S S' (u2 (S 0) j c i) → Q (some (.int (nI (S 0 j c)))) (hp S' N X Y)) : Cn 3 yX3_set cX3_set 7 (some .int) [.ref 0, .int x, .int w, .int v] (hp S N X Y) Q := by
  refine cn_of (own := RX3) (lo := [some (.ref 0), some (.int x), some (.int w), some (.int v), none, none, none]) 3 rfl (by decide +kernel) rfl (Nat.le_of_ble_eq_true rfl) ?_
  refine go_aloadn0 (q := 1) dX3_set_0 rfl ?_
  refine go_iloadn1 (q := 2) dX3_set_1 rfl ?_
  refine go_ic1 (q := 5) dX3_set_2 lk_X3_78 (by decide) (by decide) (Nat.le_of_ble_eq_true rfl) rfl (c_isCoin hw ?_)
  refine go_ifneB (tgt := 15) (q := 8) dX3_set_5 (by decide) rfl (fun h1 => ?_) (fun h1 => ?_)
  · skip
    obtain ⟨c, hc, hc12, rfl⟩ := ic_nat h1 hw
    refine go_iloadn2 (q := 16) dX3_set_15 rfl ?_
    rcases sw_13 w with hwr | rfl | rfl | rfl
    · skip
      refine go_tableOut (tgt := 90) dX3_set_16 (by omega) (by decide) ?_
      refine go_aloadn0 (q := 91) dX3_set_90 rfl ?_
      refine go_ldc (q := 93) dX3_set_91 ko_X3_55 rfl ?_
      refine go_ic1 (q := 96) dX3_set_93 lk_X3_56 (by decide) (by decide) (Nat.le_of_ble_eq_true rfl) rfl (c_finding (p := 0) (by decide) (by decide) ?_)
      exact go_iret dX3_set_96 rfl (hB (fun z => hwr z.2.1) _ (Cf.rf 0))
    · skip
      refine go_tableIn (off := 28) (tgt := 44) dX3_set_16 (by decide) (by decide) (by decide) (by decide) ?_
      refine go_aloadn0 (q := 45) dX3_set_44 rfl ?_
      refine go_cg (q := 48) dX3_set_45 fl_X3_10 rfl rfl ?_
      refine go_mg (q := 51) dX3_set_48 fl_X3_84 (by decide) rfl rfl ?_
      refine go_astore4 (q := 53) dX3_set_51 rfl (by decide) rfl ?_
      refine go_iconstN (n := 3) (q := 54) dX3_set_53 rfl ?_
      refine go_istore5 (q := 56) dX3_set_54 rfl (by decide) rfl ?_
      refine go_goto (tgt := 97) dX3_set_56 (by decide) ?_
      exact c_set_97 (m := 3) hc12 (by decide) (by decide) (fun z => hB (fun y => z (by have := y.2.2; rw [if_pos rfl] at this; exact this))) (fun i hi e => hO c 1 i hc (by decide) rfl rfl e (by simpa using hi))
    · skip
      refine go_tableIn (off := 43) (tgt := 59) dX3_set_16 (by decide) (by decide) (by decide) (by decide) ?_
      refine go_aloadn0 (q := 60) dX3_set_59 rfl ?_
      refine go_cg (q := 63) dX3_set_60 fl_X3_10 rfl rfl ?_
      refine go_mg (q := 66) dX3_set_63 fl_X3_87 (by decide) rfl rfl ?_
      refine go_astore4 (q := 68) dX3_set_66 rfl (by decide) rfl ?_
      refine go_bipushN (v := 99) (q := 70) dX3_set_68 (by decide) rfl ?_
      refine go_istore5 (q := 72) dX3_set_70 rfl (by decide) rfl ?_
      refine go_goto (tgt := 97) dX3_set_72 (by decide) ?_
      exact c_set_97 (m := 99) hc12 (by decide) (by decide) (fun z => hB (fun y => z (by have := y.2.2; rw [if_neg (by decide), if_pos rfl] at this; exact this))) (fun i hi e => hO c 2 i hc (by decide) rfl rfl e (by simpa using hi))
    · skip
      refine go_tableIn (off := 59) (tgt := 75) dX3_set_16 (by decide) (by decide) (by decide) (by decide) ?_
      refine go_aloadn0 (q := 76) dX3_set_75 rfl ?_
      refine go_cg (q := 79) dX3_set_76 fl_X3_10 rfl rfl ?_
      refine go_mg (q := 82) dX3_set_79 fl_X3_90 (by decide) rfl rfl ?_
      refine go_astore4 (q := 84) dX3_set_82 rfl (by decide) rfl ?_
      refine go_iconstN (n := 2) (q := 85) dX3_set_84 rfl ?_
      refine go_istore5 (q := 87) dX3_set_85 rfl (by decide) rfl ?_
      refine go_goto (tgt := 97) dX3_set_87 (by decide) ?_
      exact c_set_97 (m := 2) hc12 (by decide) (by decide) (fun z => hB (fun y => z (by have := y.2.2; rw [if_neg (by decide), if_neg (by decide)] at this; exact this))) (fun i hi e => hO c 3 i hc (by decide) rfl rfl e (by simpa using hi))
  · skip
    refine go_aloadn0 (q := 9) dX3_set_8 rfl ?_
    refine go_ldc (q := 11) dX3_set_9 ko_X3_55 rfl ?_
    refine go_ic1 (q := 14) dX3_set_11 lk_X3_56 (by decide) (by decide) (Nat.le_of_ble_eq_true rfl) rfl (c_finding (p := 0) (by decide) (by decide) ?_)
    exact go_iret dX3_set_14 rfl (hB (fun z => h1 z.1) _ (Cf.rf 0))

set_option maxHeartbeats 4000000 in
set_option maxRecDepth 100000 in
theorem c_pay {S : St} {N : Nat → Nat → Int64} {X : St} {Y : Nat → Int64} {Q : Option Value → AH → Prop} {x y v : Int32} (hw : WF (S 0)) (hB : ¬ ((rg x 0 3 ∧ rg y 0 3 ∧ x ≠ y) ∧ rg v 1 9999) → ∀ S', Cf S S' 0 → Q (some (.int (-1000000001))) (hp S' N X Y)) (hO : ∀ f t a, f ≤ 3 → t ≤ 3 → f ≠ t → 1 ≤ a ∧ a ≤ 9999 → x = nI f → y = nI t → v = nI a → ∀ S', Cc S S' (payM (S 0) f t a) → Q (some (.int (nI (chs (S 0) f a)))) (hp S' N X Y)) : Cn 17 yX3_pay cX3_pay 4 (some .int) [.ref 0, .int x, .int y, .int v] (hp S N X Y) Q := by
  refine cn_of (own := RX3) (lo := [some (.ref 0), some (.int x), some (.int y), some (.int v)]) 0 rfl (by decide +kernel) rfl (Nat.le_of_ble_eq_true rfl) ?_
  refine go_iloadn1 (q := 1) dX3_pay_0 rfl ?_
  refine go_iloadn2 (q := 2) dX3_pay_1 rfl ?_
  refine go_is2_ (q := 5) dX3_pay_2 lk_X3_127 (by decide) (by decide) (Nat.le_of_ble_eq_true rfl) rfl (c_areTwo ?_)
  refine go_ifeqB (tgt := 15) (q := 8) dX3_pay_5 (by decide) rfl (fun h1 => ?_) (fun h1 => ?_)
  · skip
    refine go_aloadn0 (q := 16) dX3_pay_15 rfl ?_
    refine go_ldc (q := 18) dX3_pay_16 ko_X3_55 rfl ?_
    refine go_ic1 (q := 21) dX3_pay_18 lk_X3_56 (by decide) (by decide) (Nat.le_of_ble_eq_true rfl) rfl (c_finding (p := 0) (by decide) (by decide) ?_)
    exact go_iret dX3_pay_21 rfl (hB (fun z => h1 z.1) _ (Cf.rf 0))
  · skip
    refine go_iloadn3 (q := 9) dX3_pay_8 rfl ?_
    refine go_is1_ (q := 12) dX3_pay_9 lk_X3_130 (by decide) (by decide) (Nat.le_of_ble_eq_true rfl) rfl (c_isOwed ?_)
    refine go_ifneB (tgt := 22) (q := 15) dX3_pay_12 (by decide) rfl (fun h2 => ?_) (fun h2 => ?_)
    · skip
      obtain ⟨f, hf, rfl, -, -⟩ := rg_nat (n := 3) h1.1 (by omega) (by omega)
      obtain ⟨t, ht, rfl, -, -⟩ := rg_nat (n := 3) h1.2.1 (by omega) (by omega)
      have hft : f ≠ t := fun e => h1.2.2 (by rw [e])
      obtain ⟨a, ha, rfl, ha1, -⟩ := rg_nat (n := 9999) h2 (by omega) (by omega)
      refine go_aloadn0 (q := 23) dX3_pay_22 rfl ?_
      refine go_cg (q := 26) dX3_pay_23 fl_X3_10 rfl rfl ?_
      refine go_iloadn1 (q := 27) dX3_pay_26 rfl ?_
      refine go_iloadn2 (q := 28) dX3_pay_27 rfl ?_
      refine go_iloadn3 (q := 29) dX3_pay_28 rfl ?_
      refine go_im3 (q := 32) dX3_pay_29 lk_X3_133 (by decide) (by decide) (Nat.le_of_ble_eq_true rfl) (by decide) rfl (c_handOver (by decide) hw (by omega) ha (fun S1 g => ?_))
      exact go_iret dX3_pay_32 rfl (hO f t a hf ht hft ⟨by omega, ha⟩ rfl rfl rfl _ g.here)
    · skip
      refine go_aloadn0 (q := 16) dX3_pay_15 rfl ?_
      refine go_ldc (q := 18) dX3_pay_16 ko_X3_55 rfl ?_
      refine go_ic1 (q := 21) dX3_pay_18 lk_X3_56 (by decide) (by decide) (Nat.le_of_ble_eq_true rfl) rfl (c_finding (p := 0) (by decide) (by decide) ?_)
      exact go_iret dX3_pay_21 rfl (hB (fun z => h2 z.2) _ (Cf.rf 0))

set_option maxHeartbeats 4000000 in
set_option maxRecDepth 100000 in
theorem c_which {S : St} {N : Nat → Nat → Int64} {X : St} {Y : Nat → Int64} {Q : Option Value → AH → Prop} {x v : Int32} (hw : WF (S 0)) (hB : ¬ (rg x 0 3 ∧ rg v 1 9999) → ∀ S', Cf S S' 0 → Q (some (.int (-1000000001))) (hp S' N X Y)) (hO : ∀ f a, f ≤ 3 → 1 ≤ a ∧ a ≤ 9999 → x = nI f → v = nI a → ∀ S', Cc S S' (S 0) → Q (some (.int (nI (chs (S 0) f a)))) (hp S' N X Y)) : Cn 17 yX3_which cX3_which 3 (some .int) [.ref 0, .int x, .int v] (hp S N X Y) Q := by
  refine cn_of (own := RX3) (lo := [some (.ref 0), some (.int x), some (.int v)]) 0 rfl (by decide +kernel) rfl (Nat.le_of_ble_eq_true rfl) ?_
  refine go_iloadn1 (q := 1) dX3_which_0 rfl ?_
  refine go_is1_ (q := 4) dX3_which_1 lk_X3_47 (by decide) (by decide) (Nat.le_of_ble_eq_true rfl) rfl (c_isOwner ?_)
  refine go_ifeqB (tgt := 14) (q := 7) dX3_which_4 (by decide) rfl (fun h1 => ?_) (fun h1 => ?_)
  · skip
    refine go_aloadn0 (q := 15) dX3_which_14 rfl ?_
    refine go_ldc (q := 17) dX3_which_15 ko_X3_55 rfl ?_
    refine go_ic1 (q := 20) dX3_which_17 lk_X3_56 (by decide) (by decide) (Nat.le_of_ble_eq_true rfl) rfl (c_finding (p := 0) (by decide) (by decide) ?_)
    exact go_iret dX3_which_20 rfl (hB (fun z => h1 z.1) _ (Cf.rf 0))
  · skip
    refine go_iloadn2 (q := 8) dX3_which_7 rfl ?_
    refine go_is1_ (q := 11) dX3_which_8 lk_X3_130 (by decide) (by decide) (Nat.le_of_ble_eq_true rfl) rfl (c_isOwed ?_)
    refine go_ifneB (tgt := 21) (q := 14) dX3_which_11 (by decide) rfl (fun h2 => ?_) (fun h2 => ?_)
    · skip
      obtain ⟨f, hf, rfl, -, -⟩ := rg_nat (n := 3) h1 (by omega) (by omega)
      obtain ⟨a, ha, rfl, ha1, -⟩ := rg_nat (n := 9999) h2 (by omega) (by omega)
      refine go_aloadn0 (q := 22) dX3_which_21 rfl ?_
      refine go_cg (q := 25) dX3_which_22 fl_X3_10 rfl rfl ?_
      refine go_iloadn1 (q := 26) dX3_which_25 rfl ?_
      refine go_iloadn2 (q := 27) dX3_which_26 rfl ?_
      refine go_im2 (q := 30) dX3_which_27 lk_X3_137 (by decide) (by decide) (Nat.le_of_ble_eq_true rfl) (by decide) rfl (c_coinsFor (by decide) hw (by omega) ha (fun S1 g _ => ?_))
      exact go_iret dX3_which_30 rfl (hO f a hf ⟨by omega, ha⟩ rfl rfl _ g.here)
    · skip
      refine go_aloadn0 (q := 15) dX3_which_14 rfl ?_
      refine go_ldc (q := 17) dX3_which_15 ko_X3_55 rfl ?_
      refine go_ic1 (q := 20) dX3_which_17 lk_X3_56 (by decide) (by decide) (Nat.le_of_ble_eq_true rfl) rfl (c_finding (p := 0) (by decide) (by decide) ?_)
      exact go_iret dX3_which_20 rfl (hB (fun z => h2 z.2) _ (Cf.rf 0))

set_option maxHeartbeats 4000000 in
set_option maxRecDepth 100000 in
theorem c_over {S : St} {N : Nat → Nat → Int64} {X : St} {Y : Nat → Int64} {Q : Option Value → AH → Prop} {x v : Int32} (hw : WF (S 0)) (hB : ¬ (rg x 0 3 ∧ rg v 1 9999) → ∀ S', Cf S S' 0 → Q (some (.int (-1000000001))) (hp S' N X Y)) (hO : ∀ f a, f ≤ 3 → 1 ≤ a ∧ a ≤ 9999 → x = nI f → v = nI a → (purse (S 0) f < a ∨ ∃ s, IsB (vl (S 0) f) (S 0 13 0) a s) → ∀ S', Cc S S' (S 0) → Q (some (.int (nI (wset (S 0) (chs (S 0) f a)) - nI a))) (hp S' N X Y)) : Cn 17 yX3_over cX3_over 3 (some .int) [.ref 0, .int x, .int v] (hp S N X Y) Q := by
  refine cn_of (own := RX3) (lo := [some (.ref 0), some (.int x), some (.int v)]) 0 rfl (by decide +kernel) rfl (Nat.le_of_ble_eq_true rfl) ?_
  refine go_iloadn1 (q := 1) dX3_over_0 rfl ?_
  refine go_is1_ (q := 4) dX3_over_1 lk_X3_47 (by decide) (by decide) (Nat.le_of_ble_eq_true rfl) rfl (c_isOwner ?_)
  refine go_ifeqB (tgt := 14) (q := 7) dX3_over_4 (by decide) rfl (fun h1 => ?_) (fun h1 => ?_)
  · skip
    refine go_aloadn0 (q := 15) dX3_over_14 rfl ?_
    refine go_ldc (q := 17) dX3_over_15 ko_X3_55 rfl ?_
    refine go_ic1 (q := 20) dX3_over_17 lk_X3_56 (by decide) (by decide) (Nat.le_of_ble_eq_true rfl) rfl (c_finding (p := 0) (by decide) (by decide) ?_)
    exact go_iret dX3_over_20 rfl (hB (fun z => h1 z.1) _ (Cf.rf 0))
  · skip
    refine go_iloadn2 (q := 8) dX3_over_7 rfl ?_
    refine go_is1_ (q := 11) dX3_over_8 lk_X3_130 (by decide) (by decide) (Nat.le_of_ble_eq_true rfl) rfl (c_isOwed ?_)
    refine go_ifneB (tgt := 21) (q := 14) dX3_over_11 (by decide) rfl (fun h2 => ?_) (fun h2 => ?_)
    · skip
      obtain ⟨f, hf, rfl, -, -⟩ := rg_nat (n := 3) h1 (by omega) (by omega)
      obtain ⟨a, ha, rfl, ha1, -⟩ := rg_nat (n := 9999) h2 (by omega) (by omega)
      refine go_aloadn0 (q := 22) dX3_over_21 rfl ?_
      refine go_cg (q := 25) dX3_over_22 fl_X3_10 rfl rfl ?_
      refine go_aloadn0 (q := 26) dX3_over_25 rfl ?_
      refine go_cg (q := 29) dX3_over_26 fl_X3_10 rfl rfl ?_
      refine go_iloadn1 (q := 30) dX3_over_29 rfl ?_
      refine go_iloadn2 (q := 31) dX3_over_30 rfl ?_
      refine go_im2 (q := 34) dX3_over_31 lk_X3_137 (by decide) (by decide) (Nat.le_of_ble_eq_true rfl) (by decide) rfl (c_coinsFor (by decide) hw (by omega) ha (fun S1 g g2 => ?_))
      have hw1 : WF (S1 0) := g.wf hw
      have g3 := wset_chs g2 hw
      refine go_im1 (q := 37) dX3_over_34 lk_X3_140 (by decide) (by decide) (Nat.le_of_ble_eq_true rfl) (by decide) rfl (c_worthOfSet (by decide) hw1 (by omega) ?_)
      rw [g.1]
      refine go_iloadn2 (q := 38) dX3_over_37 rfl ?_
      refine go_isub (q := 39) dX3_over_38 rfl ?_
      exact go_iret dX3_over_39 rfl (hO f a hf ⟨by omega, ha⟩ rfl rfl g2 _ g.here)
    · skip
      refine go_aloadn0 (q := 15) dX3_over_14 rfl ?_
      refine go_ldc (q := 17) dX3_over_15 ko_X3_55 rfl ?_
      refine go_ic1 (q := 20) dX3_over_17 lk_X3_56 (by decide) (by decide) (Nat.le_of_ble_eq_true rfl) rfl (c_finding (p := 0) (by decide) (by decide) ?_)
      exact go_iret dX3_over_20 rfl (hB (fun z => h2 z.2) _ (Cf.rf 0))

set_option maxHeartbeats 4000000 in
set_option maxRecDepth 100000 in
theorem c_loan {S : St} {N : Nat → Nat → Int64} {X : St} {Y : Nat → Int64} {Q : Option Value → AH → Prop} {x y v z : Int32} (hw : WF (S 0)) (hB : ¬ ((rg x 0 3 ∧ rg y 0 3 ∧ x ≠ y) ∧ rg v 1 9999 ∧ rg z 1 120) → ∀ S', Cf S S' 0 → Q (some (.int (-1000000001))) (hp S' N X Y)) (hS : ∀ n, n ≤ 120 → z = nI n → ((rg x 0 3 ∧ rg y 0 3 ∧ x ≠ y) ∧ rg v 1 9999 ∧ rg z 1 120) → 9999 < S 0 13 2 + n → ∀ S', Cf S S' 4 → Q (some (.int (-1000000005))) (hp S' N X Y)) (hF : ∀ n, n ≤ 120 → z = nI n → ((rg x 0 3 ∧ rg y 0 3 ∧ x ≠ y) ∧ rg v 1 9999 ∧ rg z 1 120) → ¬ 9999 < S 0 13 2 + n → ¬ S 0 13 1 < 8 → ∀ S', Cf S S' 1 → Q (some (.int (-1000000002))) (hp S' N X Y)) (hO : ∀ f t a n, f ≤ 3 → t ≤ 3 → f ≠ t → 1 ≤ a ∧ a ≤ 9999 → n ≤ 120 → 1 ≤ n → x = nI f → y = nI t → v = nI a → z = nI n → ¬ 9999 < S 0 13 2 + n → S 0 13 1 < 8 → ∀ S', Cc S S' (addL (S 0) f t a n) → Q (some (.int (nI (S 0 13 1)))) (hp S' N X Y)) : Cn 4 yX3_loan cX3_loan 5 (some .int) [.ref 0, .int x, .int y, .int v, .int z] (hp S N X Y) Q := by
  refine cn_of (own := RX3) (lo := [some (.ref 0), some (.int x), some (.int y), some (.int v), some (.int z)]) 0 rfl (by decide +kernel) rfl (Nat.le_of_ble_eq_true rfl) ?_
  refine go_iloadn1 (q := 1) dX3_loan_0 rfl ?_
  refine go_iloadn2 (q := 2) dX3_loan_1 rfl ?_
  refine go_is2_ (q := 5) dX3_loan_2 lk_X3_127 (by decide) (by decide) (Nat.le_of_ble_eq_true rfl) rfl (c_areTwo ?_)
  refine go_ifeqB (tgt := 26) (q := 8) dX3_loan_5 (by decide) rfl (fun h1 => ?_) (fun h1 => ?_)
  · skip
    refine go_aloadn0 (q := 27) dX3_loan_26 rfl ?_
    refine go_ldc (q := 29) dX3_loan_27 ko_X3_55 rfl ?_
    refine go_ic1 (q := 32) dX3_loan_29 lk_X3_56 (by decide) (by decide) (Nat.le_of_ble_eq_true rfl) rfl (c_finding (p := 0) (by decide) (by decide) ?_)
    exact go_iret dX3_loan_32 rfl (hB (fun z => h1 z.1) _ (Cf.rf 0))
  · skip
    refine go_iloadn3 (q := 9) dX3_loan_8 rfl ?_
    refine go_is1_ (q := 12) dX3_loan_9 lk_X3_130 (by decide) (by decide) (Nat.le_of_ble_eq_true rfl) rfl (c_isOwed ?_)
    refine go_ifeqB (tgt := 26) (q := 15) dX3_loan_12 (by decide) rfl (fun h2 => ?_) (fun h2 => ?_)
    · skip
      refine go_aloadn0 (q := 27) dX3_loan_26 rfl ?_
      refine go_ldc (q := 29) dX3_loan_27 ko_X3_55 rfl ?_
      refine go_ic1 (q := 32) dX3_loan_29 lk_X3_56 (by decide) (by decide) (Nat.le_of_ble_eq_true rfl) rfl (c_finding (p := 0) (by decide) (by decide) ?_)
      exact go_iret dX3_loan_32 rfl (hB (fun z => h2 z.2.1) _ (Cf.rf 0))
    · skip
      refine go_iload4 (q := 17) dX3_loan_15 rfl ?_
      refine go_iconstN (n := 1) (q := 18) dX3_loan_17 rfl ?_
      refine go_bipushN (v := 120) (q := 20) dX3_loan_18 (by decide) rfl ?_
      refine go_is3_ (q := 23) dX3_loan_20 lk_X3_51 (by decide) (by decide) (Nat.le_of_ble_eq_true rfl) rfl (c_isWithin (l := 1) (m := 120) (by decide) (by decide) ?_)
      refine go_ifneB (tgt := 33) (q := 26) dX3_loan_23 (by decide) rfl (fun h3 => ?_) (fun h3 => ?_)
      · skip
        have h30 := h3
        obtain ⟨n, hn, rfl, hn1, -⟩ := rg_nat (n := 120) h3 (by omega) (by omega)
        refine go_aloadn0 (q := 34) dX3_loan_33 rfl ?_
        refine go_iload4 (q := 36) dX3_loan_34 rfl ?_
        refine go_ic1 (q := 39) dX3_loan_36 lk_X3_143 (by decide) (by decide) (Nat.le_of_ble_eq_true rfl) rfl (c_past hw (by omega) ?_)
        refine go_ifeqB (tgt := 49) (q := 42) dX3_loan_39 (by decide) rfl (fun h4 => ?_) (fun h4 => ?_)
        · skip
          refine go_aloadn0 (q := 50) dX3_loan_49 rfl ?_
          refine go_cg (q := 53) dX3_loan_50 fl_X3_10 rfl rfl ?_
          refine go_mg (q := 56) dX3_loan_53 fl_X3_146 (by decide) rfl rfl ?_
          refine go_bipushN (v := 8) (q := 58) dX3_loan_56 (by decide) rfl ?_
          refine go_icmp_ltN (tgt := 68) (q := 61) dX3_loan_58 (by decide) rfl (by have := hw.lo; omega) (by omega) (fun h5 => ?_) (fun h5 => ?_)
          · skip
            obtain ⟨f, hf, rfl, -, -⟩ := rg_nat (n := 3) h1.1 (by omega) (by omega)
            obtain ⟨t, ht, rfl, -, -⟩ := rg_nat (n := 3) h1.2.1 (by omega) (by omega)
            have hft : f ≠ t := fun e => h1.2.2 (by rw [e])
            obtain ⟨a, ha, rfl, ha1, -⟩ := rg_nat (n := 9999) h2 (by omega) (by omega)
            refine go_aloadn0 (q := 69) dX3_loan_68 rfl ?_
            refine go_cg (q := 72) dX3_loan_69 fl_X3_10 rfl rfl ?_
            refine go_iloadn1 (q := 73) dX3_loan_72 rfl ?_
            refine go_iloadn2 (q := 74) dX3_loan_73 rfl ?_
            refine go_iloadn3 (q := 75) dX3_loan_74 rfl ?_
            refine go_iload4 (q := 77) dX3_loan_75 rfl ?_
            refine go_im4 (q := 80) dX3_loan_77 lk_X3_149 (by decide) (by decide) (Nat.le_of_ble_eq_true rfl) (by decide) rfl (c_addLoan (by decide) h5 (fun S1 g => ?_))
            exact go_iret dX3_loan_80 rfl (hO f t a n hf ht hft ⟨by omega, ha⟩ hn (by omega) rfl rfl rfl rfl h4 h5 _ g.here)
          · skip
            refine go_aloadn0 (q := 62) dX3_loan_61 rfl ?_
            refine go_ldc (q := 64) dX3_loan_62 ko_X3_73 rfl ?_
            refine go_ic1 (q := 67) dX3_loan_64 lk_X3_56 (by decide) (by decide) (Nat.le_of_ble_eq_true rfl) rfl (c_finding (p := 1) (by decide) (by decide) ?_)
            exact go_iret dX3_loan_67 rfl (hF n hn rfl ⟨h1, h2, h30⟩ h4 h5 _ (Cf.rf 1))
        · skip
          refine go_aloadn0 (q := 43) dX3_loan_42 rfl ?_
          refine go_ldc (q := 45) dX3_loan_43 ko_X3_123 rfl ?_
          refine go_ic1 (q := 48) dX3_loan_45 lk_X3_56 (by decide) (by decide) (Nat.le_of_ble_eq_true rfl) rfl (c_finding (p := 4) (by decide) (by decide) ?_)
          exact go_iret dX3_loan_48 rfl (hS n hn rfl ⟨h1, h2, h30⟩ h4 _ (Cf.rf 4))
      · skip
        refine go_aloadn0 (q := 27) dX3_loan_26 rfl ?_
        refine go_ldc (q := 29) dX3_loan_27 ko_X3_55 rfl ?_
        refine go_ic1 (q := 32) dX3_loan_29 lk_X3_56 (by decide) (by decide) (Nat.le_of_ble_eq_true rfl) rfl (c_finding (p := 0) (by decide) (by decide) ?_)
        exact go_iret dX3_loan_32 rfl (hB (fun z => h3 z.2.2) _ (Cf.rf 0))

set_option maxHeartbeats 4000000 in
set_option maxRecDepth 100000 in
theorem c_loanOf {S : St} {N : Nat → Nat → Int64} {X : St} {Y : Nat → Int64} {Q : Option Value → AH → Prop} {x w : Int32} (hw : WF (S 0)) (hB : ¬ (rg x 0 ((S 0 13 1 : Int) - 1) ∧ rg w 0 4) → ∀ S', Cf S S' 0 → Q (some (.int (-1000000001))) (hp S' N X Y)) (hO : ∀ i j, i < S 0 13 1 → i < 8 → j ≤ 4 → x = nI i → w = nI j → Q (some (.int (nI (S 0 (6 + j) i)))) (hp S N X Y)) : Cn 4 yX3_loanOf cX3_loanOf 3 (some .int) [.ref 0, .int x, .int w] (hp S N X Y) Q := by
  refine cn_of (own := RX3) (lo := [some (.ref 0), some (.int x), some (.int w)]) 0 rfl (by decide +kernel) rfl (Nat.le_of_ble_eq_true rfl) ?_
  refine go_iloadn1 (q := 1) dX3_loanOf_0 rfl ?_
  refine go_iconstN (n := 0) (q := 2) dX3_loanOf_1 rfl ?_
  refine go_aloadn0 (q := 3) dX3_loanOf_2 rfl ?_
  refine go_cg (q := 6) dX3_loanOf_3 fl_X3_10 rfl rfl ?_
  refine go_mg (q := 9) dX3_loanOf_6 fl_X3_146 (by decide) rfl rfl ?_
  refine go_iconstN (n := 1) (q := 10) dX3_loanOf_9 rfl ?_
  refine go_isub (q := 11) dX3_loanOf_10 rfl ?_
  refine go_is3_ (q := 14) dX3_loanOf_11 lk_X3_51 (by decide) (by decide) (Nat.le_of_ble_eq_true rfl) rfl (c_isWithin (l := 0) (m := (S 0 13 1 : Int) - 1) (by decide) (pk_sub_toInt (by have := hw.lo; omega) (by decide)) ?_)
  refine go_ifneB (tgt := 24) (q := 17) dX3_loanOf_14 (by decide) rfl (fun h1 => ?_) (fun h1 => ?_)
  · skip
    have h8 := hw.lo
    obtain ⟨i, hi, rfl, h3, h4⟩ := rg_nat (n := 8) h1 (by omega) (by omega)
    have hl : i < S 0 13 1 := by omega
    have hi : i < 8 := by omega
    have hl8 : i < 8 := by omega
    refine go_iloadn2 (q := 25) dX3_loanOf_24 rfl ?_
    rcases sw_4 w with hwr | rfl | rfl | rfl | rfl | rfl
    · skip
      refine go_tableOut (tgt := 110) dX3_loanOf_25 (by omega) (by decide) ?_
      refine go_aloadn0 (q := 111) dX3_loanOf_110 rfl ?_
      refine go_ldc (q := 113) dX3_loanOf_111 ko_X3_55 rfl ?_
      refine go_ic1 (q := 116) dX3_loanOf_113 lk_X3_56 (by decide) (by decide) (Nat.le_of_ble_eq_true rfl) rfl (c_finding (p := 0) (by decide) (by decide) ?_)
      exact go_iret dX3_loanOf_116 rfl (hB (fun z => hwr z.2) _ (Cf.rf 0))
    · skip
      refine go_tableIn (off := 35) (tgt := 60) dX3_loanOf_25 (by decide) (by decide) (by decide) (by decide) ?_
      refine go_aloadn0 (q := 61) dX3_loanOf_60 rfl ?_
      refine go_cg (q := 64) dX3_loanOf_61 fl_X3_10 rfl rfl ?_
      refine go_mg (q := 67) dX3_loanOf_64 fl_X3_152 (by decide) rfl rfl ?_
      refine go_iloadn1 (q := 68) dX3_loanOf_67 rfl ?_
      refine go_mld (q := 69) dX3_loanOf_68 (by decide) (by decide) hl8 rfl ?_
      exact go_iret dX3_loanOf_69 rfl (hO i 0 hl hi (by decide) rfl rfl)
    · skip
      refine go_tableIn (off := 45) (tgt := 70) dX3_loanOf_25 (by decide) (by decide) (by decide) (by decide) ?_
      refine go_aloadn0 (q := 71) dX3_loanOf_70 rfl ?_
      refine go_cg (q := 74) dX3_loanOf_71 fl_X3_10 rfl rfl ?_
      refine go_mg (q := 77) dX3_loanOf_74 fl_X3_155 (by decide) rfl rfl ?_
      refine go_iloadn1 (q := 78) dX3_loanOf_77 rfl ?_
      refine go_mld (q := 79) dX3_loanOf_78 (by decide) (by decide) hl8 rfl ?_
      exact go_iret dX3_loanOf_79 rfl (hO i 1 hl hi (by decide) rfl rfl)
    · skip
      refine go_tableIn (off := 55) (tgt := 80) dX3_loanOf_25 (by decide) (by decide) (by decide) (by decide) ?_
      refine go_aloadn0 (q := 81) dX3_loanOf_80 rfl ?_
      refine go_cg (q := 84) dX3_loanOf_81 fl_X3_10 rfl rfl ?_
      refine go_mg (q := 87) dX3_loanOf_84 fl_X3_158 (by decide) rfl rfl ?_
      refine go_iloadn1 (q := 88) dX3_loanOf_87 rfl ?_
      refine go_mld (q := 89) dX3_loanOf_88 (by decide) (by decide) hl8 rfl ?_
      exact go_iret dX3_loanOf_89 rfl (hO i 2 hl hi (by decide) rfl rfl)
    · skip
      refine go_tableIn (off := 65) (tgt := 90) dX3_loanOf_25 (by decide) (by decide) (by decide) (by decide) ?_
      refine go_aloadn0 (q := 91) dX3_loanOf_90 rfl ?_
      refine go_cg (q := 94) dX3_loanOf_91 fl_X3_10 rfl rfl ?_
      refine go_mg (q := 97) dX3_loanOf_94 fl_X3_161 (by decide) rfl rfl ?_
      refine go_iloadn1 (q := 98) dX3_loanOf_97 rfl ?_
      refine go_mld (q := 99) dX3_loanOf_98 (by decide) (by decide) hl8 rfl ?_
      exact go_iret dX3_loanOf_99 rfl (hO i 3 hl hi (by decide) rfl rfl)
    · skip
      refine go_tableIn (off := 75) (tgt := 100) dX3_loanOf_25 (by decide) (by decide) (by decide) (by decide) ?_
      refine go_aloadn0 (q := 101) dX3_loanOf_100 rfl ?_
      refine go_cg (q := 104) dX3_loanOf_101 fl_X3_10 rfl rfl ?_
      refine go_mg (q := 107) dX3_loanOf_104 fl_X3_164 (by decide) rfl rfl ?_
      refine go_iloadn1 (q := 108) dX3_loanOf_107 rfl ?_
      refine go_mld (q := 109) dX3_loanOf_108 (by decide) (by decide) hl8 rfl ?_
      exact go_iret dX3_loanOf_109 rfl (hO i 4 hl hi (by decide) rfl rfl)
  · skip
    refine go_aloadn0 (q := 18) dX3_loanOf_17 rfl ?_
    refine go_ldc (q := 20) dX3_loanOf_18 ko_X3_55 rfl ?_
    refine go_ic1 (q := 23) dX3_loanOf_20 lk_X3_56 (by decide) (by decide) (Nat.le_of_ble_eq_true rfl) rfl (c_finding (p := 0) (by decide) (by decide) ?_)
    exact go_iret dX3_loanOf_23 rfl (hB (fun z => h1 z.1) _ (Cf.rf 0))

set_option maxHeartbeats 4000000 in
set_option maxRecDepth 100000 in
theorem c_tax {S : St} {N : Nat → Nat → Int64} {X : St} {Y : Nat → Int64} {Q : Option Value → AH → Prop} (hw : WF (S 0)) (hO : ∀ S', Cc S S' (txd (S 0) 4) → Q (some (.int (nI (txn (S 0) 4)))) (hp S' N X Y)) : Cn 5 yX3_tax cX3_tax 1 (some .int) [.ref 0] (hp S N X Y) Q := by
  refine cn_of (own := RX3) (lo := [some (.ref 0)]) 0 rfl (by decide +kernel) rfl (Nat.le_of_ble_eq_true rfl) ?_
  refine go_aloadn0 (q := 1) dX3_tax_0 rfl ?_
  refine go_cg (q := 4) dX3_tax_1 fl_X3_10 rfl rfl ?_
  refine go_im0 (q := 7) dX3_tax_4 lk_X3_167 (by decide) (by decide) (Nat.le_of_ble_eq_true rfl) (by decide) rfl (c_boil (by decide) hw (fun S1 g => ?_))
  exact go_iret dX3_tax_7 rfl (hO _ g.here)

set_option maxHeartbeats 4000000 in
set_option maxRecDepth 100000 in
theorem c_months {S : St} {N : Nat → Nat → Int64} {X : St} {Y : Nat → Int64} {Q : Option Value → AH → Prop} {z : Int32} (hw : WF (S 0)) (hB : ¬ rg z 1 120 → ∀ S', Cf S S' 0 → Q (some (.int (-1000000001))) (hp S' N X Y)) (hS : ∀ n, 1 ≤ n → n ≤ 120 → z = nI n → 9999 < S 0 13 2 + n → ∀ S', Cf S S' 4 → Q (some (.int (-1000000005))) (hp S' N X Y)) (hO : ∀ n, 1 ≤ n → n ≤ 120 → z = nI n → ¬ 9999 < S 0 13 2 + n → ∀ S', Cc S S' (monN (S 0) n) → Q (some (.int (nI (many (monN (S 0) n) 1) - nI (many (S 0) 1)))) (hp S' N X Y)) : Cn 19 yX3_months cX3_months 3 (some .int) [.ref 0, .int z] (hp S N X Y) Q := by
  refine cn_of (own := RX3) (lo := [some (.ref 0), some (.int z), none]) 1 rfl (by decide +kernel) rfl (Nat.le_of_ble_eq_true rfl) ?_
  refine go_iloadn1 (q := 1) dX3_months_0 rfl ?_
  refine go_iconstN (n := 1) (q := 2) dX3_months_1 rfl ?_
  refine go_bipushN (v := 120) (q := 4) dX3_months_2 (by decide) rfl ?_
  refine go_is3_ (q := 7) dX3_months_4 lk_X3_51 (by decide) (by decide) (Nat.le_of_ble_eq_true rfl) rfl (c_isWithin (l := 1) (m := 120) (by decide) (by decide) ?_)
  refine go_ifneB (tgt := 17) (q := 10) dX3_months_7 (by decide) rfl (fun h1 => ?_) (fun h1 => ?_)
  · skip
    obtain ⟨n, hn, rfl, hn1, -⟩ := rg_nat (n := 120) h1 (by omega) (by omega)
    refine go_aloadn0 (q := 18) dX3_months_17 rfl ?_
    refine go_iloadn1 (q := 19) dX3_months_18 rfl ?_
    refine go_ic1 (q := 22) dX3_months_19 lk_X3_143 (by decide) (by decide) (Nat.le_of_ble_eq_true rfl) rfl (c_past hw (by omega) ?_)
    refine go_ifeqB (tgt := 32) (q := 25) dX3_months_22 (by decide) rfl (fun h4 => ?_) (fun h4 => ?_)
    · skip
      refine go_aloadn0 (q := 33) dX3_months_32 rfl ?_
      refine go_cg (q := 36) dX3_months_33 fl_X3_10 rfl rfl ?_
      refine go_iconstN (n := 1) (q := 37) dX3_months_36 rfl ?_
      refine go_im1 (q := 40) dX3_months_37 lk_X3_170 (by decide) (by decide) (Nat.le_of_ble_eq_true rfl) (by decide) rfl (c_howMany (by decide) hw (by decide) ?_)
      refine go_istoren2 (q := 41) dX3_months_40 rfl (by decide) rfl ?_
      refine go_aloadn0 (q := 42) dX3_months_41 rfl ?_
      refine go_cg (q := 45) dX3_months_42 fl_X3_10 rfl rfl ?_
      refine go_iloadn1 (q := 46) dX3_months_45 rfl ?_
      refine go_im1 (q := 49) dX3_months_46 lk_X3_173 (by decide) (by decide) (Nat.le_of_ble_eq_true rfl) (by decide) rfl (c_goOn (by decide) hw (by omega) (fun S1 g => ?_))
      have hw1 : WF (S1 0) := g.wf (wf_monN hw (by omega)).1
      refine go_aloadn0 (q := 50) dX3_months_49 rfl ?_
      refine go_cg (q := 53) dX3_months_50 fl_X3_10 rfl rfl ?_
      refine go_iconstN (n := 1) (q := 54) dX3_months_53 rfl ?_
      refine go_im1 (q := 57) dX3_months_54 lk_X3_170 (by decide) (by decide) (Nat.le_of_ble_eq_true rfl) (by decide) rfl (c_howMany (by decide) hw1 (by decide) ?_)
      rw [g.1]
      refine go_iloadn2 (q := 58) dX3_months_57 rfl ?_
      refine go_isub (q := 59) dX3_months_58 rfl ?_
      exact go_iret dX3_months_59 rfl (hO n (by omega) hn rfl h4 _ g.here)
    · skip
      refine go_aloadn0 (q := 26) dX3_months_25 rfl ?_
      refine go_ldc (q := 28) dX3_months_26 ko_X3_123 rfl ?_
      refine go_ic1 (q := 31) dX3_months_28 lk_X3_56 (by decide) (by decide) (Nat.le_of_ble_eq_true rfl) rfl (c_finding (p := 4) (by decide) (by decide) ?_)
      exact go_iret dX3_months_31 rfl (hS n (by omega) hn rfl h4 _ (Cf.rf 4))
  · skip
    refine go_aloadn0 (q := 11) dX3_months_10 rfl ?_
    refine go_ldc (q := 13) dX3_months_11 ko_X3_55 rfl ?_
    refine go_ic1 (q := 16) dX3_months_13 lk_X3_56 (by decide) (by decide) (Nat.le_of_ble_eq_true rfl) rfl (c_finding (p := 0) (by decide) (by decide) ?_)
    exact go_iret dX3_months_16 rfl (hB h1 _ (Cf.rf 0))

def nowV (M : Mk) (j : Nat) : Nat := if j = 0 then M 13 2 else if j = 1 then sea M else if j = 2 then M 13 3 else many M (j - 3)

set_option maxHeartbeats 4000000 in
set_option maxRecDepth 100000 in
theorem c_now {S : St} {N : Nat → Nat → Int64} {X : St} {Y : Nat → Int64} {Q : Option Value → AH → Prop} {w : Int32} (hw : WF (S 0)) (hB : ¬ rg w 0 5 → ∀ S', Cf S S' 0 → Q (some (.int (-1000000001))) (hp S' N X Y)) (hO : ∀ j, j ≤ 5 → w = nI j → Q (some (.int (nI (nowV (S 0) j)))) (hp S N X Y)) : Cn 2 yX3_now cX3_now 2 (some .int) [.ref 0, .int w] (hp S N X Y) Q := by
  refine cn_of (own := RX3) (lo := [some (.ref 0), some (.int w)]) 0 rfl (by decide +kernel) rfl (Nat.le_of_ble_eq_true rfl) ?_
  refine go_iloadn1 (q := 1) dX3_now_0 rfl ?_
  rcases sw_5 w with hwr | rfl | rfl | rfl | rfl | rfl | rfl
  · skip
    refine go_tableOut (tgt := 91) dX3_now_1 (by omega) (by decide) ?_
    refine go_aloadn0 (q := 92) dX3_now_91 rfl ?_
    refine go_ldc (q := 94) dX3_now_92 ko_X3_55 rfl ?_
    refine go_ic1 (q := 97) dX3_now_94 lk_X3_56 (by decide) (by decide) (Nat.le_of_ble_eq_true rfl) rfl (c_finding (p := 0) (by decide) (by decide) ?_)
    exact go_iret dX3_now_97 rfl (hB hwr _ (Cf.rf 0))
  · skip
    refine go_tableIn (off := 39) (tgt := 40) dX3_now_1 (by decide) (by decide) (by decide) (by decide) ?_
    refine go_aloadn0 (q := 41) dX3_now_40 rfl ?_
    refine go_cg (q := 44) dX3_now_41 fl_X3_10 rfl rfl ?_
    refine go_mg (q := 47) dX3_now_44 fl_X3_177 (by decide) rfl rfl ?_
    exact go_iret dX3_now_47 rfl (hO 0 (by decide) rfl)
  · skip
    refine go_tableIn (off := 47) (tgt := 48) dX3_now_1 (by decide) (by decide) (by decide) (by decide) ?_
    refine go_aloadn0 (q := 49) dX3_now_48 rfl ?_
    refine go_cg (q := 52) dX3_now_49 fl_X3_10 rfl rfl ?_
    refine go_im0 (q := 55) dX3_now_52 lk_X3_96 (by decide) (by decide) (Nat.le_of_ble_eq_true rfl) (by decide) rfl (c_season (by decide) hw ?_)
    exact go_iret dX3_now_55 rfl (hO 1 (by decide) rfl)
  · skip
    refine go_tableIn (off := 55) (tgt := 56) dX3_now_1 (by decide) (by decide) (by decide) (by decide) ?_
    refine go_aloadn0 (q := 57) dX3_now_56 rfl ?_
    refine go_cg (q := 60) dX3_now_57 fl_X3_10 rfl rfl ?_
    refine go_mg (q := 63) dX3_now_60 fl_X3_180 (by decide) rfl rfl ?_
    exact go_iret dX3_now_63 rfl (hO 2 (by decide) rfl)
  · skip
    refine go_tableIn (off := 63) (tgt := 64) dX3_now_1 (by decide) (by decide) (by decide) (by decide) ?_
    refine go_aloadn0 (q := 65) dX3_now_64 rfl ?_
    refine go_cg (q := 68) dX3_now_65 fl_X3_10 rfl rfl ?_
    refine go_iconstN (n := 0) (q := 69) dX3_now_68 rfl ?_
    refine go_im1 (q := 72) dX3_now_69 lk_X3_170 (by decide) (by decide) (Nat.le_of_ble_eq_true rfl) (by decide) rfl (c_howMany (by decide) hw (by decide) ?_)
    exact go_iret dX3_now_72 rfl (hO 3 (by decide) rfl)
  · skip
    refine go_tableIn (off := 72) (tgt := 73) dX3_now_1 (by decide) (by decide) (by decide) (by decide) ?_
    refine go_aloadn0 (q := 74) dX3_now_73 rfl ?_
    refine go_cg (q := 77) dX3_now_74 fl_X3_10 rfl rfl ?_
    refine go_iconstN (n := 1) (q := 78) dX3_now_77 rfl ?_
    refine go_im1 (q := 81) dX3_now_78 lk_X3_170 (by decide) (by decide) (Nat.le_of_ble_eq_true rfl) (by decide) rfl (c_howMany (by decide) hw (by decide) ?_)
    exact go_iret dX3_now_81 rfl (hO 4 (by decide) rfl)
  · skip
    refine go_tableIn (off := 81) (tgt := 82) dX3_now_1 (by decide) (by decide) (by decide) (by decide) ?_
    refine go_aloadn0 (q := 83) dX3_now_82 rfl ?_
    refine go_cg (q := 86) dX3_now_83 fl_X3_10 rfl rfl ?_
    refine go_iconstN (n := 2) (q := 87) dX3_now_86 rfl ?_
    refine go_im1 (q := 90) dX3_now_87 lk_X3_170 (by decide) (by decide) (Nat.le_of_ble_eq_true rfl) (by decide) rfl (c_howMany (by decide) hw (by decide) ?_)
    exact go_iret dX3_now_90 rfl (hO 5 (by decide) rfl)

set_option maxHeartbeats 4000000 in
set_option maxRecDepth 100000 in
theorem c_on {S : St} {N : Nat → Nat → Int64} {X : St} {Y : Nat → Int64} {Q : Option Value → AH → Prop} {x z : Int32} (hw : WF (S 0)) (hB : ¬ (ic (S 0) x ∧ rg z 0 120) → ∀ S', Cf S S' 0 → Q (some (.int (-1000000001))) (hp S' N X Y)) (hS : ∀ n, n ≤ 120 → z = nI n → ic (S 0) x → 9999 < S 0 13 2 + n → ∀ S', Cf S S' 4 → Q (some (.int (-1000000005))) (hp S' N X Y)) (hO : ∀ c n, c < S 0 13 0 → n ≤ 120 → x = nI c → z = nI n → ¬ 9999 < S 0 13 2 + n → ∀ S', Cc S S' (S 0) → Q (some (.int (nI (agN (S 0) n 2 c)))) (hp S' N X Y)) : Cn 7 yX3_on cX3_on 3 (some .int) [.ref 0, .int x, .int z] (hp S N X Y) Q := by
  refine cn_of (own := RX3) (lo := [some (.ref 0), some (.int x), some (.int z)]) 0 rfl (by decide +kernel) rfl (Nat.le_of_ble_eq_true rfl) ?_
  refine go_aloadn0 (q := 1) dX3_on_0 rfl ?_
  refine go_iloadn1 (q := 2) dX3_on_1 rfl ?_
  refine go_ic1 (q := 5) dX3_on_2 lk_X3_78 (by decide) (by decide) (Nat.le_of_ble_eq_true rfl) rfl (c_isCoin hw ?_)
  refine go_ifeqB (tgt := 18) (q := 8) dX3_on_5 (by decide) rfl (fun h1 => ?_) (fun h1 => ?_)
  · skip
    refine go_aloadn0 (q := 19) dX3_on_18 rfl ?_
    refine go_ldc (q := 21) dX3_on_19 ko_X3_55 rfl ?_
    refine go_ic1 (q := 24) dX3_on_21 lk_X3_56 (by decide) (by decide) (Nat.le_of_ble_eq_true rfl) rfl (c_finding (p := 0) (by decide) (by decide) ?_)
    exact go_iret dX3_on_24 rfl (hB (fun z => h1 z.1) _ (Cf.rf 0))
  · skip
    refine go_iloadn2 (q := 9) dX3_on_8 rfl ?_
    refine go_iconstN (n := 0) (q := 10) dX3_on_9 rfl ?_
    refine go_bipushN (v := 120) (q := 12) dX3_on_10 (by decide) rfl ?_
    refine go_is3_ (q := 15) dX3_on_12 lk_X3_51 (by decide) (by decide) (Nat.le_of_ble_eq_true rfl) rfl (c_isWithin (l := 0) (m := 120) (by decide) (by decide) ?_)
    refine go_ifneB (tgt := 25) (q := 18) dX3_on_15 (by decide) rfl (fun h2 => ?_) (fun h2 => ?_)
    · skip
      have h10 := h1
      obtain ⟨c, hc, hc12, rfl⟩ := ic_nat h1 hw
      obtain ⟨n, hn, rfl, hn1, -⟩ := rg_nat (n := 120) h2 (by omega) (by omega)
      refine go_aloadn0 (q := 26) dX3_on_25 rfl ?_
      refine go_iloadn2 (q := 27) dX3_on_26 rfl ?_
      refine go_ic1 (q := 30) dX3_on_27 lk_X3_143 (by decide) (by decide) (Nat.le_of_ble_eq_true rfl) rfl (c_past hw (by omega) ?_)
      refine go_ifeqB (tgt := 40) (q := 33) dX3_on_30 (by decide) rfl (fun h4 => ?_) (fun h4 => ?_)
      · skip
        refine go_aloadn0 (q := 41) dX3_on_40 rfl ?_
        refine go_cg (q := 44) dX3_on_41 fl_X3_19 rfl rfl ?_
        refine go_aloadn0 (q := 45) dX3_on_44 rfl ?_
        refine go_cg (q := 48) dX3_on_45 fl_X3_10 rfl rfl ?_
        refine go_im1 (q := 51) dX3_on_48 lk_X3_183 (by decide) (by decide) (Nat.le_of_ble_eq_true rfl) (by decide) rfl (c_become (a := 0) (b := 2) (by decide) (by decide) (by decide) (fun S1 g1 => ?_))
        have hw1 : WF (S1 2) := g1.wf hw
        have e1 := g1.1
        refine go_aloadn0 (q := 52) dX3_on_51 rfl ?_
        refine go_cg (q := 55) dX3_on_52 fl_X3_19 rfl rfl ?_
        refine go_iloadn2 (q := 56) dX3_on_55 rfl ?_
        refine go_im1 (q := 59) dX3_on_56 lk_X3_187 (by decide) (by decide) (Nat.le_of_ble_eq_true rfl) (by decide) rfl (c_age (by decide) hw1 (by rw [e1]; omega) (fun S2 g2 => ?_))
        have hw2 : WF (S2 2) := g2.wf (wf_agN hw1 (by rw [e1]; omega)).1
        have e2 : S2 2 = agN (S 0) n := by rw [g2.1, e1]
        have gg := (g1.trial (Or.inl rfl)).tr2 (g2.trial (Or.inl rfl))
        refine go_aloadn0 (q := 60) dX3_on_59 rfl ?_
        refine go_cg (q := 63) dX3_on_60 fl_X3_19 rfl rfl ?_
        refine go_mg (q := 66) dX3_on_63 fl_X3_87 (by decide) rfl rfl ?_
        refine go_iloadn1 (q := 67) dX3_on_66 rfl ?_
        refine go_mld (q := 68) dX3_on_67 (by decide) (by decide) hc12 rfl ?_
        rw [e2]
        exact go_iret dX3_on_68 rfl (hO c n hc hn rfl rfl h4 _ gg)
      · skip
        refine go_aloadn0 (q := 34) dX3_on_33 rfl ?_
        refine go_ldc (q := 36) dX3_on_34 ko_X3_123 rfl ?_
        refine go_ic1 (q := 39) dX3_on_36 lk_X3_56 (by decide) (by decide) (Nat.le_of_ble_eq_true rfl) rfl (c_finding (p := 4) (by decide) (by decide) ?_)
        exact go_iret dX3_on_39 rfl (hS n hn rfl h10 h4 _ (Cf.rf 4))
    · skip
      refine go_aloadn0 (q := 19) dX3_on_18 rfl ?_
      refine go_ldc (q := 21) dX3_on_19 ko_X3_55 rfl ?_
      refine go_ic1 (q := 24) dX3_on_21 lk_X3_56 (by decide) (by decide) (Nat.le_of_ble_eq_true rfl) rfl (c_finding (p := 0) (by decide) (by decide) ?_)
      exact go_iret dX3_on_24 rfl (hB (fun z => h2 z.2) _ (Cf.rf 0))

set_option maxHeartbeats 4000000 in
set_option maxRecDepth 100000 in
theorem c_purseOn {S : St} {N : Nat → Nat → Int64} {X : St} {Y : Nat → Int64} {Q : Option Value → AH → Prop} {x z : Int32} (hw : WF (S 0)) (hB : ¬ (rg x 0 3 ∧ rg z 0 120) → ∀ S', Cf S S' 0 → Q (some (.int (-1000000001))) (hp S' N X Y)) (hS : ∀ n, n ≤ 120 → z = nI n → rg x 0 3 → 9999 < S 0 13 2 + n → ∀ S', Cf S S' 4 → Q (some (.int (-1000000005))) (hp S' N X Y)) (hO : ∀ f n, f ≤ 3 → n ≤ 120 → x = nI f → z = nI n → ¬ 9999 < S 0 13 2 + n → ∀ S', Cc S S' (S 0) → Q (some (.int (nI (purse (monN (S 0) n) f)))) (hp S' N X Y)) : Cn 19 yX3_purseOn cX3_purseOn 3 (some .int) [.ref 0, .int x, .int z] (hp S N X Y) Q := by
  refine cn_of (own := RX3) (lo := [some (.ref 0), some (.int x), some (.int z)]) 0 rfl (by decide +kernel) rfl (Nat.le_of_ble_eq_true rfl) ?_
  refine go_iloadn1 (q := 1) dX3_purseOn_0 rfl ?_
  refine go_is1_ (q := 4) dX3_purseOn_1 lk_X3_47 (by decide) (by decide) (Nat.le_of_ble_eq_true rfl) rfl (c_isOwner ?_)
  refine go_ifeqB (tgt := 17) (q := 7) dX3_purseOn_4 (by decide) rfl (fun h1 => ?_) (fun h1 => ?_)
  · skip
    refine go_aloadn0 (q := 18) dX3_purseOn_17 rfl ?_
    refine go_ldc (q := 20) dX3_purseOn_18 ko_X3_55 rfl ?_
    refine go_ic1 (q := 23) dX3_purseOn_20 lk_X3_56 (by decide) (by decide) (Nat.le_of_ble_eq_true rfl) rfl (c_finding (p := 0) (by decide) (by decide) ?_)
    exact go_iret dX3_purseOn_23 rfl (hB (fun z => h1 z.1) _ (Cf.rf 0))
  · skip
    refine go_iloadn2 (q := 8) dX3_purseOn_7 rfl ?_
    refine go_iconstN (n := 0) (q := 9) dX3_purseOn_8 rfl ?_
    refine go_bipushN (v := 120) (q := 11) dX3_purseOn_9 (by decide) rfl ?_
    refine go_is3_ (q := 14) dX3_purseOn_11 lk_X3_51 (by decide) (by decide) (Nat.le_of_ble_eq_true rfl) rfl (c_isWithin (l := 0) (m := 120) (by decide) (by decide) ?_)
    refine go_ifneB (tgt := 24) (q := 17) dX3_purseOn_14 (by decide) rfl (fun h2 => ?_) (fun h2 => ?_)
    · skip
      have h10 := h1
      obtain ⟨f, hf, rfl, -, -⟩ := rg_nat (n := 3) h1 (by omega) (by omega)
      obtain ⟨n, hn, rfl, hn1, -⟩ := rg_nat (n := 120) h2 (by omega) (by omega)
      refine go_aloadn0 (q := 25) dX3_purseOn_24 rfl ?_
      refine go_iloadn2 (q := 26) dX3_purseOn_25 rfl ?_
      refine go_ic1 (q := 29) dX3_purseOn_26 lk_X3_143 (by decide) (by decide) (Nat.le_of_ble_eq_true rfl) rfl (c_past hw (by omega) ?_)
      refine go_ifeqB (tgt := 39) (q := 32) dX3_purseOn_29 (by decide) rfl (fun h4 => ?_) (fun h4 => ?_)
      · skip
        refine go_aloadn0 (q := 40) dX3_purseOn_39 rfl ?_
        refine go_cg (q := 43) dX3_purseOn_40 fl_X3_19 rfl rfl ?_
        refine go_aloadn0 (q := 44) dX3_purseOn_43 rfl ?_
        refine go_cg (q := 47) dX3_purseOn_44 fl_X3_10 rfl rfl ?_
        refine go_im1 (q := 50) dX3_purseOn_47 lk_X3_183 (by decide) (by decide) (Nat.le_of_ble_eq_true rfl) (by decide) rfl (c_become (a := 0) (b := 2) (by decide) (by decide) (by decide) (fun S1 g1 => ?_))
        have hw1 : WF (S1 2) := g1.wf hw
        have e1 := g1.1
        refine go_aloadn0 (q := 51) dX3_purseOn_50 rfl ?_
        refine go_cg (q := 54) dX3_purseOn_51 fl_X3_19 rfl rfl ?_
        refine go_iloadn2 (q := 55) dX3_purseOn_54 rfl ?_
        refine go_im1 (q := 58) dX3_purseOn_55 lk_X3_173 (by decide) (by decide) (Nat.le_of_ble_eq_true rfl) (by decide) rfl (c_goOn (by decide) hw1 (by rw [e1]; omega) (fun S2 g2 => ?_))
        have hw2 : WF (S2 2) := g2.wf (wf_monN hw1 (by rw [e1]; omega)).1
        have e2 : S2 2 = monN (S 0) n := by rw [g2.1, e1]
        have gg := (g1.trial (Or.inl rfl)).tr2 (g2.trial (Or.inl rfl))
        refine go_aloadn0 (q := 59) dX3_purseOn_58 rfl ?_
        refine go_cg (q := 62) dX3_purseOn_59 fl_X3_19 rfl rfl ?_
        refine go_iloadn1 (q := 63) dX3_purseOn_62 rfl ?_
        refine go_im1 (q := 66) dX3_purseOn_63 lk_X3_124 (by decide) (by decide) (Nat.le_of_ble_eq_true rfl) (by decide) rfl (c_purseOf (by decide) hw2 (by omega) ?_)
        rw [e2]
        exact go_iret dX3_purseOn_66 rfl (hO f n hf hn rfl rfl h4 _ gg)
      · skip
        refine go_aloadn0 (q := 33) dX3_purseOn_32 rfl ?_
        refine go_ldc (q := 35) dX3_purseOn_33 ko_X3_123 rfl ?_
        refine go_ic1 (q := 38) dX3_purseOn_35 lk_X3_56 (by decide) (by decide) (Nat.le_of_ble_eq_true rfl) rfl (c_finding (p := 4) (by decide) (by decide) ?_)
        exact go_iret dX3_purseOn_38 rfl (hS n hn rfl h10 h4 _ (Cf.rf 4))
    · skip
      refine go_aloadn0 (q := 18) dX3_purseOn_17 rfl ?_
      refine go_ldc (q := 20) dX3_purseOn_18 ko_X3_55 rfl ?_
      refine go_ic1 (q := 23) dX3_purseOn_20 lk_X3_56 (by decide) (by decide) (Nat.le_of_ble_eq_true rfl) rfl (c_finding (p := 0) (by decide) (by decide) ?_)
      exact go_iret dX3_purseOn_23 rfl (hB (fun z => h2 z.2) _ (Cf.rf 0))

set_option maxHeartbeats 4000000 in
set_option maxRecDepth 100000 in
theorem c_rich {S : St} {N : Nat → Nat → Int64} {X : St} {Y : Nat → Int64} {Q : Option Value → AH → Prop} {z : Int32} (hw : WF (S 0)) (hB : ¬ rg z 0 120 → ∀ S', Cf S S' 0 → Q (some (.int (-1000000001))) (hp S' N X Y)) (hS : ∀ n, 0 ≤ n → n ≤ 120 → z = nI n → 9999 < S 0 13 2 + n → ∀ S', Cf S S' 4 → Q (some (.int (-1000000005))) (hp S' N X Y)) (hO : ∀ n, n ≤ 120 → z = nI n → ¬ 9999 < S 0 13 2 + n → ∀ S', Cc S S' (S 0) → Q (some (.int (nI (rch (purse (monN (S 0) n)) 3)))) (hp S' N X Y)) : Cn 19 yX3_rich cX3_rich 2 (some .int) [.ref 0, .int z] (hp S N X Y) Q := by
  refine cn_of (own := RX3) (lo := [some (.ref 0), some (.int z)]) 0 rfl (by decide +kernel) rfl (Nat.le_of_ble_eq_true rfl) ?_
  refine go_iloadn1 (q := 1) dX3_rich_0 rfl ?_
  refine go_iconstN (n := 0) (q := 2) dX3_rich_1 rfl ?_
  refine go_bipushN (v := 120) (q := 4) dX3_rich_2 (by decide) rfl ?_
  refine go_is3_ (q := 7) dX3_rich_4 lk_X3_51 (by decide) (by decide) (Nat.le_of_ble_eq_true rfl) rfl (c_isWithin (l := 0) (m := 120) (by decide) (by decide) ?_)
  refine go_ifneB (tgt := 17) (q := 10) dX3_rich_7 (by decide) rfl (fun h1 => ?_) (fun h1 => ?_)
  · skip
    obtain ⟨n, hn, rfl, hn1, -⟩ := rg_nat (n := 120) h1 (by omega) (by omega)
    refine go_aloadn0 (q := 18) dX3_rich_17 rfl ?_
    refine go_iloadn1 (q := 19) dX3_rich_18 rfl ?_
    refine go_ic1 (q := 22) dX3_rich_19 lk_X3_143 (by decide) (by decide) (Nat.le_of_ble_eq_true rfl) rfl (c_past hw (by omega) ?_)
    refine go_ifeqB (tgt := 32) (q := 25) dX3_rich_22 (by decide) rfl (fun h4 => ?_) (fun h4 => ?_)
    · skip
      refine go_aloadn0 (q := 33) dX3_rich_32 rfl ?_
      refine go_cg (q := 36) dX3_rich_33 fl_X3_19 rfl rfl ?_
      refine go_aloadn0 (q := 37) dX3_rich_36 rfl ?_
      refine go_cg (q := 40) dX3_rich_37 fl_X3_10 rfl rfl ?_
      refine go_im1 (q := 43) dX3_rich_40 lk_X3_183 (by decide) (by decide) (Nat.le_of_ble_eq_true rfl) (by decide) rfl (c_become (a := 0) (b := 2) (by decide) (by decide) (by decide) (fun S1 g1 => ?_))
      have hw1 : WF (S1 2) := g1.wf hw
      have e1 := g1.1
      refine go_aloadn0 (q := 44) dX3_rich_43 rfl ?_
      refine go_cg (q := 47) dX3_rich_44 fl_X3_19 rfl rfl ?_
      refine go_iloadn1 (q := 48) dX3_rich_47 rfl ?_
      refine go_im1 (q := 51) dX3_rich_48 lk_X3_173 (by decide) (by decide) (Nat.le_of_ble_eq_true rfl) (by decide) rfl (c_goOn (by decide) hw1 (by rw [e1]; omega) (fun S2 g2 => ?_))
      have hw2 : WF (S2 2) := g2.wf (wf_monN hw1 (by rw [e1]; omega)).1
      have e2 : S2 2 = monN (S 0) n := by rw [g2.1, e1]
      have gg := (g1.trial (Or.inl rfl)).tr2 (g2.trial (Or.inl rfl))
      refine go_aloadn0 (q := 52) dX3_rich_51 rfl ?_
      refine go_cg (q := 55) dX3_rich_52 fl_X3_19 rfl rfl ?_
      refine go_im0 (q := 58) dX3_rich_55 lk_X3_190 (by decide) (by decide) (Nat.le_of_ble_eq_true rfl) (by decide) rfl (c_richest (by decide) hw2 ?_)
      rw [e2]
      exact go_iret dX3_rich_58 rfl (hO n hn rfl h4 _ gg)
    · skip
      refine go_aloadn0 (q := 26) dX3_rich_25 rfl ?_
      refine go_ldc (q := 28) dX3_rich_26 ko_X3_123 rfl ?_
      refine go_ic1 (q := 31) dX3_rich_28 lk_X3_56 (by decide) (by decide) (Nat.le_of_ble_eq_true rfl) rfl (c_finding (p := 4) (by decide) (by decide) ?_)
      exact go_iret dX3_rich_31 rfl (hS n (by omega) hn rfl h4 _ (Cf.rf 4))
  · skip
    refine go_aloadn0 (q := 11) dX3_rich_10 rfl ?_
    refine go_ldc (q := 13) dX3_rich_11 ko_X3_55 rfl ?_
    refine go_ic1 (q := 16) dX3_rich_13 lk_X3_56 (by decide) (by decide) (Nat.le_of_ble_eq_true rfl) rfl (c_finding (p := 0) (by decide) (by decide) ?_)
    exact go_iret dX3_rich_16 rfl (hB h1 _ (Cf.rf 0))

set_option maxHeartbeats 4000000 in
set_option maxRecDepth 100000 in
theorem c_lacks {S : St} {N : Nat → Nat → Int64} {X : St} {Y : Nat → Int64} {Q : Option Value → AH → Prop} {z : Int32} (hw : WF (S 0)) (hB : ¬ rg z 0 120 → ∀ S', Cf S S' 0 → Q (some (.int (-1000000001))) (hp S' N X Y)) (hS : ∀ n, 0 ≤ n → n ≤ 120 → z = nI n → 9999 < S 0 13 2 + n → ∀ S', Cf S S' 4 → Q (some (.int (-1000000005))) (hp S' N X Y)) (hO : ∀ n, n ≤ 120 → z = nI n → ¬ 9999 < S 0 13 2 + n → ∀ S', Cc S S' (S 0) → Q (some (.int (nI (monN (S 0) n 13 3) - nI (S 0 13 3)))) (hp S' N X Y)) : Cn 19 yX3_lacks cX3_lacks 2 (some .int) [.ref 0, .int z] (hp S N X Y) Q := by
  refine cn_of (own := RX3) (lo := [some (.ref 0), some (.int z)]) 0 rfl (by decide +kernel) rfl (Nat.le_of_ble_eq_true rfl) ?_
  refine go_iloadn1 (q := 1) dX3_lacks_0 rfl ?_
  refine go_iconstN (n := 0) (q := 2) dX3_lacks_1 rfl ?_
  refine go_bipushN (v := 120) (q := 4) dX3_lacks_2 (by decide) rfl ?_
  refine go_is3_ (q := 7) dX3_lacks_4 lk_X3_51 (by decide) (by decide) (Nat.le_of_ble_eq_true rfl) rfl (c_isWithin (l := 0) (m := 120) (by decide) (by decide) ?_)
  refine go_ifneB (tgt := 17) (q := 10) dX3_lacks_7 (by decide) rfl (fun h1 => ?_) (fun h1 => ?_)
  · skip
    obtain ⟨n, hn, rfl, hn1, -⟩ := rg_nat (n := 120) h1 (by omega) (by omega)
    refine go_aloadn0 (q := 18) dX3_lacks_17 rfl ?_
    refine go_iloadn1 (q := 19) dX3_lacks_18 rfl ?_
    refine go_ic1 (q := 22) dX3_lacks_19 lk_X3_143 (by decide) (by decide) (Nat.le_of_ble_eq_true rfl) rfl (c_past hw (by omega) ?_)
    refine go_ifeqB (tgt := 32) (q := 25) dX3_lacks_22 (by decide) rfl (fun h4 => ?_) (fun h4 => ?_)
    · skip
      refine go_aloadn0 (q := 33) dX3_lacks_32 rfl ?_
      refine go_cg (q := 36) dX3_lacks_33 fl_X3_19 rfl rfl ?_
      refine go_aloadn0 (q := 37) dX3_lacks_36 rfl ?_
      refine go_cg (q := 40) dX3_lacks_37 fl_X3_10 rfl rfl ?_
      refine go_im1 (q := 43) dX3_lacks_40 lk_X3_183 (by decide) (by decide) (Nat.le_of_ble_eq_true rfl) (by decide) rfl (c_become (a := 0) (b := 2) (by decide) (by decide) (by decide) (fun S1 g1 => ?_))
      have hw1 : WF (S1 2) := g1.wf hw
      have e1 := g1.1
      refine go_aloadn0 (q := 44) dX3_lacks_43 rfl ?_
      refine go_cg (q := 47) dX3_lacks_44 fl_X3_19 rfl rfl ?_
      refine go_iloadn1 (q := 48) dX3_lacks_47 rfl ?_
      refine go_im1 (q := 51) dX3_lacks_48 lk_X3_173 (by decide) (by decide) (Nat.le_of_ble_eq_true rfl) (by decide) rfl (c_goOn (by decide) hw1 (by rw [e1]; omega) (fun S2 g2 => ?_))
      have hw2 : WF (S2 2) := g2.wf (wf_monN hw1 (by rw [e1]; omega)).1
      have e2 : S2 2 = monN (S 0) n := by rw [g2.1, e1]
      have gg := (g1.trial (Or.inl rfl)).tr2 (g2.trial (Or.inl rfl))
      refine go_aloadn0 (q := 52) dX3_lacks_51 rfl ?_
      refine go_cg (q := 55) dX3_lacks_52 fl_X3_19 rfl rfl ?_
      refine go_mg (q := 58) dX3_lacks_55 fl_X3_180 (by decide) rfl rfl ?_
      rw [e2]
      refine go_aloadn0 (q := 59) dX3_lacks_58 rfl ?_
      refine go_cg (q := 62) dX3_lacks_59 fl_X3_10 rfl rfl ?_
      refine go_mg (q := 65) dX3_lacks_62 fl_X3_180 (by decide) rfl rfl ?_
      rw [gg.1]
      refine go_isub (q := 66) dX3_lacks_65 rfl ?_
      exact go_iret dX3_lacks_66 rfl (hO n hn rfl h4 _ gg)
    · skip
      refine go_aloadn0 (q := 26) dX3_lacks_25 rfl ?_
      refine go_ldc (q := 28) dX3_lacks_26 ko_X3_123 rfl ?_
      refine go_ic1 (q := 31) dX3_lacks_28 lk_X3_56 (by decide) (by decide) (Nat.le_of_ble_eq_true rfl) rfl (c_finding (p := 4) (by decide) (by decide) ?_)
      exact go_iret dX3_lacks_31 rfl (hS n (by omega) hn rfl h4 _ (Cf.rf 4))
  · skip
    refine go_aloadn0 (q := 11) dX3_lacks_10 rfl ?_
    refine go_ldc (q := 13) dX3_lacks_11 ko_X3_55 rfl ?_
    refine go_ic1 (q := 16) dX3_lacks_13 lk_X3_56 (by decide) (by decide) (Nat.le_of_ble_eq_true rfl) rfl (c_finding (p := 0) (by decide) (by decide) ?_)
    exact go_iret dX3_lacks_16 rfl (hB h1 _ (Cf.rf 0))
