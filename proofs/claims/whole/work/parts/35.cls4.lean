set_option maxHeartbeats 4000000 in
set_option maxRecDepth 100000 in
theorem c_rottenWith_33 {S : St} {N : Nat → Nat → Int64} {X : St} {Y : Nat → Int64} {Q : Option Value → AH → Prop} {a b n fw : Nat} (hw : WF (S 0)) (ha : a < 12) (hb : b < 12) (hn : S 0 13 2 + n ≤ 10000) (hf : fw ≤ 12) (hO : ∀ r S', Cc S S' (S 0) → r ≤ 12 → (r < fw → r = many (agN (swp (S 0) a b) n) 1) → (¬ r < fw → ¬ many (agN (swp (S 0) a b) n) 1 < fw) → Q (some (.int (nI r))) (hp S' N X Y)) : ∀ (fu : Nat) (t r : Nat) (S1 : St), n - t < fu → (t ≤ n) → (Cc S S1 (S 0)) → (S1 2 = agN (swp (S 0) a b) t) → (many (agN (swp (S 0) a b) t) 1 = r) → Go 7 RX3 cX3_rottenWith 7 (some .int) 33 [some (.ref 0), some (.int (nI a)), some (.int (nI b)), some (.int (nI n)), some (.int (nI fw)), some (.int (nI r)), some (.int (nI t))] [] (hp S1 N X Y) Q := by
  intro fu
  induction fu with
  | zero => intro t r S1 hfu; exact absurd hfu (Nat.not_lt_zero _)
  | succ fu ih =>
    intro t r S1 hfu ht gg e1 hr
    have hws := wf_swp hw a b
    have h2 := wf_agN hws (n := t) (by rw [swp_13]; omega)
    have hw1 : WF (S1 2) := by rw [e1]; exact h2.1
    have hr12 : r ≤ 12 := by rw [← hr]; exact Nat.le_trans (many_le _ _) h2.1.co
    have hmo := many_agN (M := swp (S 0) a b) t (n - t)
    rw [show t + (n - t) = n by omega, hr] at hmo
    refine go_iload6 (q := 35) dX3_rottenWith_33 rfl ?_
    refine go_iloadn3 (q := 36) dX3_rottenWith_35 rfl ?_
    refine go_icmp_geN (tgt := 70) (q := 39) dX3_rottenWith_36 (by decide) rfl (by omega) (by omega) (fun h3 => ?_) (fun h3 => ?_)
    · skip
      refine go_iload5 (q := 72) dX3_rottenWith_70 rfl ?_
      exact go_iret dX3_rottenWith_72 rfl (hO _ _ gg hr12 (fun z => by rw [← hr, show t = n by omega]) (fun z => by omega))
    · skip
      refine go_iload5 (q := 41) dX3_rottenWith_39 rfl ?_
      refine go_iload4 (q := 43) dX3_rottenWith_41 rfl ?_
      refine go_icmp_geN (tgt := 70) (q := 46) dX3_rottenWith_43 (by decide) rfl (by omega) (by omega) (fun h4 => ?_) (fun h4 => ?_)
      · skip
        refine go_iload5 (q := 72) dX3_rottenWith_70 rfl ?_
        exact go_iret dX3_rottenWith_72 rfl (hO _ _ gg hr12 (fun z => absurd z (by omega)) (fun z => by omega))
      · skip
        refine go_aloadn0 (q := 47) dX3_rottenWith_46 rfl ?_
        refine go_cg (q := 50) dX3_rottenWith_47 fl_X3_19 rfl rfl ?_
        refine go_iconstN (n := 1) (q := 51) dX3_rottenWith_50 rfl ?_
        refine go_im1 (q := 54) dX3_rottenWith_51 lk_X3_187 (by decide) (by decide) (Nat.le_of_ble_eq_true rfl) (by decide) rfl (c_age (n := 1) (by decide) hw1 (by rw [e1, h2.2, swp_13]; omega) (fun S2 g2 => ?_))
        have e2 : S2 2 = agN (swp (S 0) a b) (t + 1) := by rw [g2.1, e1]; rfl
        have hw2 : WF (S2 2) := by rw [e2]; exact (wf_agN hws (n := t + 1) (by rw [swp_13]; omega)).1
        refine go_aloadn0 (q := 55) dX3_rottenWith_54 rfl ?_
        refine go_cg (q := 58) dX3_rottenWith_55 fl_X3_19 rfl rfl ?_
        refine go_iconstN (n := 1) (q := 59) dX3_rottenWith_58 rfl ?_
        refine go_im1 (q := 62) dX3_rottenWith_59 lk_X3_170 (by decide) (by decide) (Nat.le_of_ble_eq_true rfl) (by decide) rfl (c_howMany (by decide) hw2 (by decide) ?_)
        rw [e2]
        refine go_istore5 (q := 64) dX3_rottenWith_62 rfl (by decide) rfl ?_
        refine go_iincN6 (n := 1) (q := 67) dX3_rottenWith_64 rfl (by decide) rfl ?_
        refine go_goto (tgt := 33) dX3_rottenWith_67 (by decide) ?_
        exact ih (t + 1) _ S2 (by omega) (by omega) (gg.tr2 (g2.trial (Or.inl rfl))) e2 rfl

set_option maxHeartbeats 4000000 in
set_option maxRecDepth 100000 in
theorem c_rottenWith {S : St} {N : Nat → Nat → Int64} {X : St} {Y : Nat → Int64} {Q : Option Value → AH → Prop} {a b n fw : Nat} (hw : WF (S 0)) (ha : a < 12) (hb : b < 12) (hn : S 0 13 2 + n ≤ 10000) (hf : fw ≤ 12) (hO : ∀ r S', Cc S S' (S 0) → r ≤ 12 → (r < fw → r = many (agN (swp (S 0) a b) n) 1) → (¬ r < fw → ¬ many (agN (swp (S 0) a b) n) 1 < fw) → Q (some (.int (nI r))) (hp S' N X Y)) : Cn 7 yX3_rottenWith cX3_rottenWith 7 (some .int) [.ref 0, .int (nI a), .int (nI b), .int (nI n), .int (nI fw)] (hp S N X Y) Q := by
  refine cn_of (own := RX3) (lo := [some (.ref 0), some (.int (nI a)), some (.int (nI b)), some (.int (nI n)), some (.int (nI fw)), none, none]) 2 rfl (by decide +kernel) rfl (Nat.le_of_ble_eq_true rfl) ?_
  refine go_aloadn0 (q := 1) dX3_rottenWith_0 rfl ?_
  refine go_cg (q := 4) dX3_rottenWith_1 fl_X3_19 rfl rfl ?_
  refine go_aloadn0 (q := 5) dX3_rottenWith_4 rfl ?_
  refine go_cg (q := 8) dX3_rottenWith_5 fl_X3_10 rfl rfl ?_
  refine go_im1 (q := 11) dX3_rottenWith_8 lk_X3_183 (by decide) (by decide) (Nat.le_of_ble_eq_true rfl) (by decide) rfl (c_become (a := 0) (b := 2) (by decide) (by decide) (by decide) (fun S1 g1 => ?_))
  have hw1 : WF (S1 2) := g1.wf hw
  have e1 := g1.1
  have gg := g1.trial (Or.inl rfl)
  refine go_aloadn0 (q := 12) dX3_rottenWith_11 rfl ?_
  refine go_cg (q := 15) dX3_rottenWith_12 fl_X3_19 rfl rfl ?_
  refine go_iloadn1 (q := 16) dX3_rottenWith_15 rfl ?_
  refine go_iloadn2 (q := 17) dX3_rottenWith_16 rfl ?_
  refine go_im2 (q := 20) dX3_rottenWith_17 lk_X3_115 (by decide) (by decide) (Nat.le_of_ble_eq_true rfl) (by decide) rfl (c_exchange (by decide) ha hb (fun S2 g2 => ?_))
  have e2 : S2 2 = swp (S 0) a b := by rw [g2.1, e1]
  have hw2 : WF (S2 2) := by rw [e2]; exact wf_swp hw a b
  have gg2 := gg.tr2 (g2.trial (Or.inl rfl))
  refine go_aloadn0 (q := 21) dX3_rottenWith_20 rfl ?_
  refine go_cg (q := 24) dX3_rottenWith_21 fl_X3_19 rfl rfl ?_
  refine go_iconstN (n := 1) (q := 25) dX3_rottenWith_24 rfl ?_
  refine go_im1 (q := 28) dX3_rottenWith_25 lk_X3_170 (by decide) (by decide) (Nat.le_of_ble_eq_true rfl) (by decide) rfl (c_howMany (by decide) hw2 (by decide) ?_)
  rw [e2]
  refine go_istore5 (q := 30) dX3_rottenWith_28 rfl (by decide) rfl ?_
  refine go_iconstN (n := 0) (q := 31) dX3_rottenWith_30 rfl ?_
  refine go_istore6 (q := 33) dX3_rottenWith_31 rfl (by decide) rfl ?_
  exact c_rottenWith_33 hw ha hb hn hf hO (n + 1) 0 _ S2 (by omega) (by omega) gg2 e2 rfl

set_option maxHeartbeats 4000000 in
set_option maxRecDepth 100000 in
theorem c_cellar_84 {S : St} {N : Nat → Nat → Int64} {X : St} {Y : Nat → Int64} {Q : Option Value → AH → Prop} {n : Nat} (hw : WF (S 0)) (hn : S 0 13 2 + n ≤ 10000) {st : Nat × Nat} {a : Nat} (ha : a < S 0 13 0) (hs1 : st.1 ≤ 12) (hs2 : st.2 ≤ 1200) (K : ∀ S', Cc S S' (S 0) → Go 8 RX3 cX3_cellar 7 (some .int) 132 [some (.ref 0), some (.int (nI n)), some (.int (nI (cin (fun a b => many (agN (swp (S 0) a b) n) 1) st a (S 0 13 0)).1)), some (.int (chI (cin (fun a b => many (agN (swp (S 0) a b) n) 1) st a (S 0 13 0)).2)), some (.int (nI a)), none, none] [] (hp S' N X Y) Q) : ∀ (fu : Nat) (b : Nat) (S1 : St), S 0 13 0 - b < fu → (a < b ∧ b ≤ S 0 13 0) → (Cc S S1 (S 0)) → Go 8 RX3 cX3_cellar 7 (some .int) 84 [some (.ref 0), some (.int (nI n)), some (.int (nI (cin (fun a b => many (agN (swp (S 0) a b) n) 1) st a b).1)), some (.int (chI (cin (fun a b => many (agN (swp (S 0) a b) n) 1) st a b).2)), some (.int (nI a)), some (.int (nI b)), none] [] (hp S1 N X Y) Q := by
  intro fu
  induction fu with
  | zero => intro b S1 hfu; exact absurd hfu (Nat.not_lt_zero _)
  | succ fu ih =>
    intro b S1 hfu hb gg
    have h2 := hw.co
    have e0 := gg.1
    have hw1 : WF (S1 0) := by rw [e0]; exact hw
    have hc2 := cin_2 (ρ := (fun a b => many (agN (swp (S 0) a b) n) 1)) (st := st) (show a < 12 by omega) b (by omega)
    have hf1 := hc2.2 12 hs1
    have hf2 := hc2.1 hs2
    refine go_iload5 (q := 86) dX3_cellar_84 rfl ?_
    refine go_aloadn0 (q := 87) dX3_cellar_86 rfl ?_
    refine go_cg (q := 90) dX3_cellar_87 fl_X3_10 rfl rfl ?_
    refine go_mg (q := 93) dX3_cellar_90 fl_X3_69 (by decide) rfl rfl ?_
    rw [e0]
    refine go_icmp_geN (tgt := 132) (q := 96) dX3_cellar_93 (by decide) rfl (by omega) (by omega) (fun h3 => ?_) (fun h3 => ?_)
    · skip
      rw [show b = S 0 13 0 by omega]
      refine go_forget (lo' := [some (.ref 0), some (.int (nI n)), some (.int (nI (cin (fun a b => many (agN (swp (S 0) a b) n) 1) st a (S 0 13 0)).1)), some (.int (chI (cin (fun a b => many (agN (swp (S 0) a b) n) 1) st a (S 0 13 0)).2)), some (.int (nI a)), none, none]) (fun i v hi => by match i, hi with | 0, h => exact h | 1, h => exact h | 2, h => exact h | 3, h => exact h | 4, h => exact h | 5, h => cases h | 6, h => cases h) ?_
      exact K _ gg
    · skip
      refine go_aloadn0 (q := 97) dX3_cellar_96 rfl ?_
      refine go_iload4 (q := 99) dX3_cellar_97 rfl ?_
      refine go_iload5 (q := 101) dX3_cellar_99 rfl ?_
      refine go_iloadn1 (q := 102) dX3_cellar_101 rfl ?_
      refine go_iloadn2 (q := 103) dX3_cellar_102 rfl ?_
      refine go_ic4 (q := 106) dX3_cellar_103 lk_X3_197 (by decide) (by decide) (Nat.le_of_ble_eq_true rfl) rfl (c_rottenWith hw1 (by omega) (by omega) (by rw [e0]; exact hn) hf1 (fun r S2 g2 hr12 hlt hge => ?_))
      rw [e0] at hlt hge
      have gg2 := gg.tr2 g2
      have es : cin (fun a b => many (agN (swp (S 0) a b) n) 1) st a (b + 1) = cst (fun a b => many (agN (swp (S 0) a b) n) 1) (cin (fun a b => many (agN (swp (S 0) a b) n) 1) st a b) a b := by rw [show cin (fun a b => many (agN (swp (S 0) a b) n) 1) st a (b + 1) = if a < b then cst (fun a b => many (agN (swp (S 0) a b) n) 1) (cin (fun a b => many (agN (swp (S 0) a b) n) 1) st a b) a b else cin (fun a b => many (agN (swp (S 0) a b) n) 1) st a b from rfl, if_pos hb.1]
      refine go_istore6 (q := 108) dX3_cellar_106 rfl (by decide) rfl ?_
      refine go_iload6 (q := 110) dX3_cellar_108 rfl ?_
      refine go_iloadn2 (q := 111) dX3_cellar_110 rfl ?_
      refine go_icmp_geN (tgt := 126) (q := 114) dX3_cellar_111 (by decide) rfl (by omega) (by omega) (fun h5 => ?_) (fun h5 => ?_)
      · skip
        refine go_iincN5 (n := 1) (q := 129) dX3_cellar_126 rfl (by decide) rfl ?_
        refine go_goto (tgt := 84) dX3_cellar_129 (by decide) ?_
        have e : cin (fun a b => many (agN (swp (S 0) a b) n) 1) st a (b + 1) = cin (fun a b => many (agN (swp (S 0) a b) n) 1) st a b := by rw [es]; unfold cst; exact if_neg (hge (by omega))
        refine go_forget (lo' := [some (.ref 0), some (.int (nI n)), some (.int (nI (cin (fun a b => many (agN (swp (S 0) a b) n) 1) st a b).1)), some (.int (chI (cin (fun a b => many (agN (swp (S 0) a b) n) 1) st a b).2)), some (.int (nI a)), some (.int (nI (b + 1))), none]) (fun i v hi => by match i, hi with | 0, h => exact h | 1, h => exact h | 2, h => exact h | 3, h => exact h | 4, h => exact h | 5, h => exact h | 6, h => cases h) ?_
        refine go_lo (lo' := [some (.ref 0), some (.int (nI n)), some (.int (nI (cin (fun a b => many (agN (swp (S 0) a b) n) 1) st a (b + 1)).1)), some (.int (chI (cin (fun a b => many (agN (swp (S 0) a b) n) 1) st a (b + 1)).2)), some (.int (nI a)), some (.int (nI (b + 1))), none]) (by rw [e]) ?_
        exact ih (b + 1) S2 (by omega) (by omega) gg2
      · skip
        refine go_iload6 (q := 116) dX3_cellar_114 rfl ?_
        refine go_istoren2 (q := 117) dX3_cellar_116 rfl (by decide) rfl ?_
        refine go_bipushN (v := 100) (q := 119) dX3_cellar_117 (by decide) rfl ?_
        refine go_iload4 (q := 121) dX3_cellar_119 rfl ?_
        refine go_imulN (q := 122) dX3_cellar_121 rfl ?_
        refine go_iload5 (q := 124) dX3_cellar_122 rfl ?_
        refine go_iaddN (q := 125) dX3_cellar_124 rfl ?_
        refine go_istoren3 (q := 126) dX3_cellar_125 rfl (by decide) rfl ?_
        refine go_iincN5 (n := 1) (q := 129) dX3_cellar_126 rfl (by decide) rfl ?_
        refine go_goto (tgt := 84) dX3_cellar_129 (by decide) ?_
        have hrr := hlt (by omega)
        have e : cin (fun a b => many (agN (swp (S 0) a b) n) 1) st a (b + 1) = (r, 100 * a + b) := by rw [es]; unfold cst; rw [if_pos (show many (agN (swp (S 0) a b) n) 1 < (cin (fun a b => many (agN (swp (S 0) a b) n) 1) st a b).1 by omega)]; exact Prod.ext hrr.symm rfl
        refine go_forget (lo' := [some (.ref 0), some (.int (nI n)), some (.int (nI r)), some (.int (nI (100 * a + b))), some (.int (nI a)), some (.int (nI (b + 1))), none]) (fun i v hi => by match i, hi with | 0, h => exact h | 1, h => exact h | 2, h => exact h | 3, h => exact h | 4, h => exact h | 5, h => exact h | 6, h => cases h) ?_
        refine go_lo (lo' := [some (.ref 0), some (.int (nI n)), some (.int (nI (cin (fun a b => many (agN (swp (S 0) a b) n) 1) st a (b + 1)).1)), some (.int (chI (cin (fun a b => many (agN (swp (S 0) a b) n) 1) st a (b + 1)).2)), some (.int (nI a)), some (.int (nI (b + 1))), none]) (by rw [e]; unfold chI; rw [if_neg (by dsimp only; omega)]) ?_
        exact ih (b + 1) S2 (by omega) (by omega) gg2

set_option maxHeartbeats 4000000 in
set_option maxRecDepth 100000 in
theorem c_cellar_66 {S : St} {N : Nat → Nat → Int64} {X : St} {Y : Nat → Int64} {Q : Option Value → AH → Prop} {n : Nat} (hw : WF (S 0)) (hn : S 0 13 2 + n ≤ 10000) (hO : (cou (fun a b => many (agN (swp (S 0) a b) n) 1) (S 0 13 0) (many (agN (S 0) n) 1, 0) (S 0 13 0)).2 ≠ 0 → ∀ S', Cc S S' (S 0) → Q (some (.int (nI (cou (fun a b => many (agN (swp (S 0) a b) n) 1) (S 0 13 0) (many (agN (S 0) n) 1, 0) (S 0 13 0)).2))) (hp S' N X Y)) (hN : (cou (fun a b => many (agN (swp (S 0) a b) n) 1) (S 0 13 0) (many (agN (S 0) n) 1, 0) (S 0 13 0)).2 = 0 → ∀ S', Cf S S' 3 → Q (some (.int (-1000000004))) (hp S' N X Y)) : ∀ (fu : Nat) (a : Nat) (S1 : St), S 0 13 0 - a < fu → (a ≤ S 0 13 0) → (Cc S S1 (S 0)) → Go 8 RX3 cX3_cellar 7 (some .int) 66 [some (.ref 0), some (.int (nI n)), some (.int (nI (cou (fun a b => many (agN (swp (S 0) a b) n) 1) (S 0 13 0) (many (agN (S 0) n) 1, 0) a).1)), some (.int (chI (cou (fun a b => many (agN (swp (S 0) a b) n) 1) (S 0 13 0) (many (agN (S 0) n) 1, 0) a).2)), some (.int (nI a)), none, none] [] (hp S1 N X Y) Q := by
  intro fu
  induction fu with
  | zero => intro a S1 hfu; exact absurd hfu (Nat.not_lt_zero _)
  | succ fu ih =>
    intro a S1 hfu ha gg
    have h2 := hw.co
    have e0 := gg.1
    have hb0 : many (agN (S 0) n) 1 ≤ 12 := Nat.le_trans (many_le _ _) (wf_agN hw hn).1.co
    have hc2 := cou_2 (ρ := (fun a b => many (agN (swp (S 0) a b) n) 1)) (n := S 0 13 0) (st := (many (agN (S 0) n) 1, 0)) h2 a (by omega)
    have hf1 := hc2.2 12 hb0
    have hf2 := hc2.1 (Nat.zero_le _)
    refine go_iload4 (q := 68) dX3_cellar_66 rfl ?_
    refine go_aloadn0 (q := 69) dX3_cellar_68 rfl ?_
    refine go_cg (q := 72) dX3_cellar_69 fl_X3_10 rfl rfl ?_
    refine go_mg (q := 75) dX3_cellar_72 fl_X3_69 (by decide) rfl rfl ?_
    rw [e0]
    refine go_icmp_geN (tgt := 138) (q := 78) dX3_cellar_75 (by decide) rfl (by omega) (by omega) (fun h3 => ?_) (fun h3 => ?_)
    · skip
      have ea : a = S 0 13 0 := by omega
      rw [ea] at hf2 ⊢
      rw [ea] at hf1
      refine go_iloadn3 (q := 139) dX3_cellar_138 rfl ?_
      refine go_ldc (q := 141) dX3_cellar_139 ko_X3_193 rfl ?_
      refine go_icmp_ne (tgt := 153) (q := 144) dX3_cellar_141 (by decide) rfl (fun h5 => ?_) (fun h5 => ?_)
      · skip
        refine go_iloadn3 (q := 154) dX3_cellar_153 rfl ?_
        exact go_iretE dX3_cellar_154 rfl (by unfold chI; rw [if_neg (fun z => h5 ((chI_iff hf2).mpr z))]) (hO (fun z => h5 ((chI_iff hf2).mpr z)) _ gg)
      · skip
        refine go_aloadn0 (q := 145) dX3_cellar_144 rfl ?_
        refine go_ldc (q := 147) dX3_cellar_145 ko_X3_193 rfl ?_
        refine go_ic1 (q := 150) dX3_cellar_147 lk_X3_56 (by decide) (by decide) (Nat.le_of_ble_eq_true rfl) rfl (c_finding (p := 3) (by decide) (by decide) ?_)
        refine go_goto (tgt := 154) dX3_cellar_150 (by decide) ?_
        exact go_iret dX3_cellar_154 rfl (hN ((chI_iff hf2).mp h5) _ (gg.f 3))
    · skip
      refine go_iload4 (q := 80) dX3_cellar_78 rfl ?_
      refine go_iconstN (n := 1) (q := 81) dX3_cellar_80 rfl ?_
      refine go_iaddN (q := 82) dX3_cellar_81 rfl ?_
      refine go_istore5 (q := 84) dX3_cellar_82 rfl (by decide) rfl ?_
      refine go_lo (lo' := [some (.ref 0), some (.int (nI n)), some (.int (nI (cin (fun a b => many (agN (swp (S 0) a b) n) 1) (cou (fun a b => many (agN (swp (S 0) a b) n) 1) (S 0 13 0) (many (agN (S 0) n) 1, 0) a) a (a + 1)).1)), some (.int (chI (cin (fun a b => many (agN (swp (S 0) a b) n) 1) (cou (fun a b => many (agN (swp (S 0) a b) n) 1) (S 0 13 0) (many (agN (S 0) n) 1, 0) a) a (a + 1)).2)), some (.int (nI a)), some (.int (nI (a + 1))), none]) (by rw [cin_le (a + 1) (Nat.le_refl _)]) ?_
      refine c_cellar_84 hw hn (by omega) hf1 hf2 (fun S2 g2 => ?_) (S 0 13 0 + 1) (a + 1) S1 (by omega) (by omega) gg
      refine go_iincN4 (n := 1) (q := 135) dX3_cellar_132 rfl (by decide) rfl ?_
      refine go_goto (tgt := 66) dX3_cellar_135 (by decide) ?_
      exact ih (a + 1) S2 (by omega) (by omega) g2

set_option maxHeartbeats 4000000 in
set_option maxRecDepth 100000 in
theorem c_cellar {S : St} {N : Nat → Nat → Int64} {X : St} {Y : Nat → Int64} {Q : Option Value → AH → Prop} {z : Int32} (hw : WF (S 0)) (hB : ¬ rg z 1 60 → ∀ S', Cf S S' 0 → Q (some (.int (-1000000001))) (hp S' N X Y)) (hS : ∀ n, 1 ≤ n → n ≤ 60 → z = nI n → 9999 < S 0 13 2 + n → ∀ S', Cf S S' 4 → Q (some (.int (-1000000005))) (hp S' N X Y)) (hO : ∀ n, 1 ≤ n → n ≤ 60 → z = nI n → ¬ 9999 < S 0 13 2 + n → (cou (fun a b => many (agN (swp (S 0) a b) n) 1) (S 0 13 0) (many (agN (S 0) n) 1, 0) (S 0 13 0)).2 ≠ 0 → ∀ S', Cc S S' (S 0) → Q (some (.int (nI (cou (fun a b => many (agN (swp (S 0) a b) n) 1) (S 0 13 0) (many (agN (S 0) n) 1, 0) (S 0 13 0)).2))) (hp S' N X Y)) (hN : ∀ n, 1 ≤ n → n ≤ 60 → z = nI n → ¬ 9999 < S 0 13 2 + n → (cou (fun a b => many (agN (swp (S 0) a b) n) 1) (S 0 13 0) (many (agN (S 0) n) 1, 0) (S 0 13 0)).2 = 0 → ∀ S', Cf S S' 3 → Q (some (.int (-1000000004))) (hp S' N X Y)) : Cn 8 yX3_cellar cX3_cellar 7 (some .int) [.ref 0, .int z] (hp S N X Y) Q := by
  refine cn_of (own := RX3) (lo := [some (.ref 0), some (.int z), none, none, none, none, none]) 5 rfl (by decide +kernel) rfl (Nat.le_of_ble_eq_true rfl) ?_
  refine go_iloadn1 (q := 1) dX3_cellar_0 rfl ?_
  refine go_iconstN (n := 1) (q := 2) dX3_cellar_1 rfl ?_
  refine go_bipushN (v := 60) (q := 4) dX3_cellar_2 (by decide) rfl ?_
  refine go_is3_ (q := 7) dX3_cellar_4 lk_X3_51 (by decide) (by decide) (Nat.le_of_ble_eq_true rfl) rfl (c_isWithin (l := 1) (m := 60) (by decide) (by decide) ?_)
  refine go_ifneB (tgt := 17) (q := 10) dX3_cellar_7 (by decide) rfl (fun h1 => ?_) (fun h1 => ?_)
  · skip
    obtain ⟨n, hn, rfl, hn1, -⟩ := rg_nat (n := 60) h1 (by omega) (by omega)
    refine go_aloadn0 (q := 18) dX3_cellar_17 rfl ?_
    refine go_iloadn1 (q := 19) dX3_cellar_18 rfl ?_
    refine go_ic1 (q := 22) dX3_cellar_19 lk_X3_143 (by decide) (by decide) (Nat.le_of_ble_eq_true rfl) rfl (c_past hw (by omega) ?_)
    refine go_ifeqB (tgt := 32) (q := 25) dX3_cellar_22 (by decide) rfl (fun h4 => ?_) (fun h4 => ?_)
    · skip
      refine go_aloadn0 (q := 33) dX3_cellar_32 rfl ?_
      refine go_cg (q := 36) dX3_cellar_33 fl_X3_19 rfl rfl ?_
      refine go_aloadn0 (q := 37) dX3_cellar_36 rfl ?_
      refine go_cg (q := 40) dX3_cellar_37 fl_X3_10 rfl rfl ?_
      refine go_im1 (q := 43) dX3_cellar_40 lk_X3_183 (by decide) (by decide) (Nat.le_of_ble_eq_true rfl) (by decide) rfl (c_become (a := 0) (b := 2) (by decide) (by decide) (by decide) (fun S1 g1 => ?_))
      have hw1 : WF (S1 2) := g1.wf hw
      have e1 := g1.1
      have gg := g1.trial (Or.inl rfl)
      refine go_aloadn0 (q := 44) dX3_cellar_43 rfl ?_
      refine go_cg (q := 47) dX3_cellar_44 fl_X3_19 rfl rfl ?_
      refine go_iloadn1 (q := 48) dX3_cellar_47 rfl ?_
      refine go_im1 (q := 51) dX3_cellar_48 lk_X3_187 (by decide) (by decide) (Nat.le_of_ble_eq_true rfl) (by decide) rfl (c_age (by decide) hw1 (by rw [e1]; omega) (fun S2 g2 => ?_))
      have e2 : S2 2 = agN (S 0) n := by rw [g2.1, e1]
      have hw2 : WF (S2 2) := by rw [e2]; exact (wf_agN hw (by omega)).1
      have gg2 := gg.tr2 (g2.trial (Or.inl rfl))
      refine go_aloadn0 (q := 52) dX3_cellar_51 rfl ?_
      refine go_cg (q := 55) dX3_cellar_52 fl_X3_19 rfl rfl ?_
      refine go_iconstN (n := 1) (q := 56) dX3_cellar_55 rfl ?_
      refine go_im1 (q := 59) dX3_cellar_56 lk_X3_170 (by decide) (by decide) (Nat.le_of_ble_eq_true rfl) (by decide) rfl (c_howMany (by decide) hw2 (by decide) ?_)
      rw [e2]
      refine go_istoren2 (q := 60) dX3_cellar_59 rfl (by decide) rfl ?_
      refine go_ldc (q := 62) dX3_cellar_60 ko_X3_193 rfl ?_
      refine go_istoren3 (q := 63) dX3_cellar_62 rfl (by decide) rfl ?_
      refine go_iconstN (n := 0) (q := 64) dX3_cellar_63 rfl ?_
      refine go_istore4 (q := 66) dX3_cellar_64 rfl (by decide) rfl ?_
      refine go_lo (lo' := [some (.ref 0), some (.int (nI n)), some (.int (nI (cou (fun a b => many (agN (swp (S 0) a b) n) 1) (S 0 13 0) (many (agN (S 0) n) 1, 0) 0).1)), some (.int (chI (cou (fun a b => many (agN (swp (S 0) a b) n) 1) (S 0 13 0) (many (agN (S 0) n) 1, 0) 0).2)), some (.int (nI 0)), none, none]) rfl ?_
      exact c_cellar_66 hw (by omega) (hO n (by omega) hn rfl h4) (hN n (by omega) hn rfl h4) (S 0 13 0 + 1) 0 S2 (by omega) (by omega) gg2
    · skip
      refine go_aloadn0 (q := 26) dX3_cellar_25 rfl ?_
      refine go_ldc (q := 28) dX3_cellar_26 ko_X3_123 rfl ?_
      refine go_ic1 (q := 31) dX3_cellar_28 lk_X3_56 (by decide) (by decide) (Nat.le_of_ble_eq_true rfl) rfl (c_finding (p := 4) (by decide) (by decide) ?_)
      exact go_iret dX3_cellar_31 rfl (hS n (by omega) hn rfl h4 _ (Cf.rf 4))
  · skip
    refine go_aloadn0 (q := 11) dX3_cellar_10 rfl ?_
    refine go_ldc (q := 13) dX3_cellar_11 ko_X3_55 rfl ?_
    refine go_ic1 (q := 16) dX3_cellar_13 lk_X3_56 (by decide) (by decide) (Nat.le_of_ble_eq_true rfl) rfl (c_finding (p := 0) (by decide) (by decide) ?_)
    exact go_iret dX3_cellar_16 rfl (hB h1 _ (Cf.rf 0))
