theorem m1_le {a : Nat} (h : a < 2 ^ 31) : (-1 : Int32) ≤ nI a := by
  rw [Int32.le_iff_toInt_le, nI_toInt h]
  have : (-1 : Int32).toInt = -1 := by decide
  omega

set_option maxHeartbeats 4000000 in
set_option maxRecDepth 100000 in
theorem r_bluesOf_4 {S : St} {N : Nat → Nat → Int64} {X : St} {Y : Nat → Int64} {Q : Option Value → AH → Prop} {f : Nat} (hw : WF (X 0)) (ho : f < 2 ^ 31) (hQ : Q (some (.int (nI (bl (X 0) f)))) (hp S N X Y)) : ∀ (fu : Nat) (c a : Nat), X 0 13 0 - c < fu → (c ≤ X 0 13 0) → (sm (fun c => if snd (X 0) f c ∧ blue (X 0 0 c) then 1 else 0) c = a) → Go 3 RX4 cX4_bluesOf 4 (some .int) 4 [some (.ref 69), some (.int (nI f)), some (.int (nI a)), some (.int (nI c))] [] (hp S N X Y) Q := by
  intro fu
  induction fu with
  | zero => intro c a hfu; exact absurd hfu (Nat.not_lt_zero _)
  | succ fu ih =>
    intro c a hfu hc ha
    have hco := hw.co
    refine go_iloadn3 (q := 5) dX4_bluesOf_4 rfl ?_
    refine go_aloadn0 (q := 6) dX4_bluesOf_5 rfl ?_
    refine go_xg (q := 9) dX4_bluesOf_6 fl_X4_7 rfl rfl ?_
    refine go_iconstN (n := 0) (q := 10) dX4_bluesOf_9 rfl ?_
    refine go_rld (q := 11) dX4_bluesOf_10 (rr_13 (f := 0) (by decide)) rfl ?_
    refine go_icmp_geN (tgt := 59) (q := 14) dX4_bluesOf_11 (by decide) rfl (by omega) (by omega) (fun h1 => ?_) (fun h1 => ?_)
    · skip
      refine go_iloadn2 (q := 60) dX4_bluesOf_59 rfl ?_
      exact go_iretN dX4_bluesOf_60 rfl (by unfold bl; rw [← ha, show c = X 0 13 0 by omega]) hQ
    · skip
      refine go_iloadn2 (q := 15) dX4_bluesOf_14 rfl ?_
      refine go_aloadn0 (q := 16) dX4_bluesOf_15 rfl ?_
      refine go_iloadn3 (q := 17) dX4_bluesOf_16 rfl ?_
      refine go_iconstN (n := 1) (q := 18) dX4_bluesOf_17 rfl ?_
      refine go_ix2 (q := 21) dX4_bluesOf_18 lk_X4_84 (by decide) (by decide) (Nat.le_of_ble_eq_true rfl) rfl (r_is (by omega) (by decide) ?_)
      have hown := hw.ow c
      refine go_iloadn1 (q := 22) dX4_bluesOf_21 rfl ?_
      refine go_icmp_neN (tgt := 50) (q := 25) dX4_bluesOf_22 (by decide) rfl (by omega) (by omega) (fun h2 => ?_) (fun h2 => ?_)
      · skip
        refine go_iconstN (n := 0) (q := 51) dX4_bluesOf_50 rfl ?_
        refine go_iaddN (q := 52) dX4_bluesOf_51 rfl ?_
        refine go_istoren2 (q := 53) dX4_bluesOf_52 rfl (by decide) rfl ?_
        refine go_iincN3 (n := 1) (q := 56) dX4_bluesOf_53 rfl (by decide) rfl ?_
        refine go_goto (tgt := 4) dX4_bluesOf_56 (by decide) ?_
        exact ih (c + 1) (a + 0) (by omega) (by omega) (by rw [sm_s, if_neg (fun w => h2 w.1.2), ha])
      · skip
        refine go_aloadn0 (q := 26) dX4_bluesOf_25 rfl ?_
        refine go_iloadn3 (q := 27) dX4_bluesOf_26 rfl ?_
        refine go_iconstN (n := 3) (q := 28) dX4_bluesOf_27 rfl ?_
        refine go_ix2 (q := 31) dX4_bluesOf_28 lk_X4_84 (by decide) (by decide) (Nat.le_of_ble_eq_true rfl) rfl (r_is (by omega) (by decide) ?_)
        have hst := hw.st c
        refine go_if_neN (tgt := 50) (q := 34) dX4_bluesOf_31 (by decide) rfl (by omega) (fun h3 => ?_) (fun h3 => ?_)
        · skip
          refine go_iconstN (n := 0) (q := 51) dX4_bluesOf_50 rfl ?_
          refine go_iaddN (q := 52) dX4_bluesOf_51 rfl ?_
          refine go_istoren2 (q := 53) dX4_bluesOf_52 rfl (by decide) rfl ?_
          refine go_iincN3 (n := 1) (q := 56) dX4_bluesOf_53 rfl (by decide) rfl ?_
          refine go_goto (tgt := 4) dX4_bluesOf_56 (by decide) ?_
          exact ih (c + 1) (a + 0) (by omega) (by omega) (by rw [sm_s, if_neg (fun w => h3 w.1.1), ha])
        · skip
          refine go_aloadn0 (q := 35) dX4_bluesOf_34 rfl ?_
          refine go_iloadn3 (q := 36) dX4_bluesOf_35 rfl ?_
          refine go_iconstN (n := 0) (q := 37) dX4_bluesOf_36 rfl ?_
          refine go_ix2 (q := 40) dX4_bluesOf_37 lk_X4_84 (by decide) (by decide) (Nat.le_of_ble_eq_true rfl) rfl (r_is (by omega) (by decide) ?_)
          refine go_is1_ (q := 43) dX4_bluesOf_40 lk_X4_101 (by decide) (by decide) (Nat.le_of_ble_eq_true rfl) rfl (r_isBlue (hw.kd c) ?_)
          refine go_ifeqB (tgt := 50) (q := 46) dX4_bluesOf_43 (by decide) rfl (fun h4 => ?_) (fun h4 => ?_)
          · skip
            refine go_iconstN (n := 0) (q := 51) dX4_bluesOf_50 rfl ?_
            refine go_iaddN (q := 52) dX4_bluesOf_51 rfl ?_
            refine go_istoren2 (q := 53) dX4_bluesOf_52 rfl (by decide) rfl ?_
            refine go_iincN3 (n := 1) (q := 56) dX4_bluesOf_53 rfl (by decide) rfl ?_
            refine go_goto (tgt := 4) dX4_bluesOf_56 (by decide) ?_
            exact ih (c + 1) (a + 0) (by omega) (by omega) (by rw [sm_s, if_neg (fun w => h4 w.2), ha])
          · skip
            refine go_iconstN (n := 1) (q := 47) dX4_bluesOf_46 rfl ?_
            refine go_goto (tgt := 51) dX4_bluesOf_47 (by decide) ?_
            refine go_iaddN (q := 52) dX4_bluesOf_51 rfl ?_
            refine go_istoren2 (q := 53) dX4_bluesOf_52 rfl (by decide) rfl ?_
            refine go_iincN3 (n := 1) (q := 56) dX4_bluesOf_53 rfl (by decide) rfl ?_
            refine go_goto (tgt := 4) dX4_bluesOf_56 (by decide) ?_
            exact ih (c + 1) (a + 1) (by omega) (by omega) (by rw [sm_s, if_pos ⟨⟨h3, h2⟩, h4⟩, ha])

set_option maxHeartbeats 4000000 in
set_option maxRecDepth 100000 in
theorem r_bluesOf {S : St} {N : Nat → Nat → Int64} {X : St} {Y : Nat → Int64} {Q : Option Value → AH → Prop} {f : Nat} (hw : WF (X 0)) (ho : f < 2 ^ 31) (hQ : Q (some (.int (nI (bl (X 0) f)))) (hp S N X Y)) : Cn 3 yX4_bluesOf cX4_bluesOf 4 (some .int) [.ref 69, .int (nI f)] (hp S N X Y) Q := by
  refine cn_of (own := RX4) (lo := [some (.ref 69), some (.int (nI f)), none, none]) 2 rfl (by decide +kernel) rfl (Nat.le_of_ble_eq_true rfl) ?_
  refine go_iconstN (n := 0) (q := 1) dX4_bluesOf_0 rfl ?_
  refine go_istoren2 (q := 2) dX4_bluesOf_1 rfl (by decide) rfl ?_
  refine go_iconstN (n := 0) (q := 3) dX4_bluesOf_2 rfl ?_
  refine go_istoren3 (q := 4) dX4_bluesOf_3 rfl (by decide) rfl ?_
  exact r_bluesOf_4 hw ho hQ (X 0 13 0 + 1) 0 0 (by omega) (by omega) rfl

set_option maxHeartbeats 4000000 in
set_option maxRecDepth 100000 in
theorem r_bank_4 {S : St} {N : Nat → Nat → Int64} {X : St} {Y : Nat → Int64} {Q : Option Value → AH → Prop} (hw : WF (X 0)) (hN : bl (X 0) (rch (bl (X 0)) 3) = 0 → ∀ X', Xf X X' 3 → Q (some (.int (-1000000004))) (hp S N X' Y)) (hO : ¬ bl (X 0) (rch (bl (X 0)) 3) = 0 → Q (some (.int (nI (rch (bl (X 0)) 3)))) (hp S N X Y)) : ∀ (fu : Nat) (f b : Nat), 4 - f < fu → (1 ≤ f) → (f ≤ 4) → (rch (bl (X 0)) (f - 1) = b) → (b ≤ 3) → Go 4 RX4 cX4_bank 3 (some .int) 4 [some (.ref 69), some (.int (nI b)), some (.int (nI f))] [] (hp S N X Y) Q := by
  intro fu
  induction fu with
  | zero => intro f b hfu; exact absurd hfu (Nat.not_lt_zero _)
  | succ fu ih =>
    intro f b hfu hf1 hf hb hb3
    have hp1 := bl_le hw f
    have hp2 := bl_le hw b
    refine go_iloadn2 (q := 5) dX4_bank_4 rfl ?_
    refine go_iconstN (n := 4) (q := 6) dX4_bank_5 rfl ?_
    refine go_icmp_geN (tgt := 34) (q := 9) dX4_bank_6 (by decide) rfl (by omega) (by omega) (fun h1 => ?_) (fun h1 => ?_)
    · skip
      obtain rfl : f = 4 := by omega
      subst hb
      refine go_aloadn0 (q := 35) dX4_bank_34 rfl ?_
      refine go_iloadn1 (q := 36) dX4_bank_35 rfl ?_
      refine go_ix1 (q := 39) dX4_bank_36 lk_X4_187 (by decide) (by decide) (Nat.le_of_ble_eq_true rfl) rfl (r_bluesOf hw (by omega) ?_)
      refine go_if_neN (tgt := 51) (q := 42) dX4_bank_39 (by decide) rfl (by omega) (fun h2 => ?_) (fun h2 => ?_)
      · skip
        refine go_iloadn1 (q := 52) dX4_bank_51 rfl ?_
        exact go_iret dX4_bank_52 rfl (hO h2)
      · skip
        refine go_aloadn0 (q := 43) dX4_bank_42 rfl ?_
        refine go_ldc (q := 45) dX4_bank_43 ko_X4_166 rfl ?_
        refine go_ix1 (q := 48) dX4_bank_45 lk_X4_57 (by decide) (by decide) (Nat.le_of_ble_eq_true rfl) rfl (r_finds (p := 3) (by decide) (by decide) ?_)
        refine go_goto (tgt := 52) dX4_bank_48 (by decide) ?_
        exact go_iret dX4_bank_52 rfl (hN h2 _ (Xf.rf 3))
    · skip
      refine go_aloadn0 (q := 10) dX4_bank_9 rfl ?_
      refine go_iloadn2 (q := 11) dX4_bank_10 rfl ?_
      refine go_ix1 (q := 14) dX4_bank_11 lk_X4_187 (by decide) (by decide) (Nat.le_of_ble_eq_true rfl) rfl (r_bluesOf hw (by omega) ?_)
      refine go_aloadn0 (q := 15) dX4_bank_14 rfl ?_
      refine go_iloadn1 (q := 16) dX4_bank_15 rfl ?_
      refine go_ix1 (q := 19) dX4_bank_16 lk_X4_187 (by decide) (by decide) (Nat.le_of_ble_eq_true rfl) rfl (r_bluesOf hw (by omega) ?_)
      refine go_icmp_leN (tgt := 26) (q := 22) dX4_bank_19 (by decide) rfl (by omega) (by omega) (fun h2 => ?_) (fun h2 => ?_)
      · skip
        refine go_iloadn1 (q := 27) dX4_bank_26 rfl ?_
        refine go_istoren1 (q := 28) dX4_bank_27 rfl (by decide) rfl ?_
        refine go_iincN2 (n := 1) (q := 31) dX4_bank_28 rfl (by decide) rfl ?_
        refine go_goto (tgt := 4) dX4_bank_31 (by decide) ?_
        exact ih (f + 1) b (by omega) (by omega) (by omega) (by rw [show f + 1 - 1 = (f - 1) + 1 by omega]; unfold rch; rw [hb, show f - 1 + 1 = f by omega, if_neg (by omega)]) hb3
      · skip
        refine go_iloadn2 (q := 23) dX4_bank_22 rfl ?_
        refine go_goto (tgt := 27) dX4_bank_23 (by decide) ?_
        refine go_istoren1 (q := 28) dX4_bank_27 rfl (by decide) rfl ?_
        refine go_iincN2 (n := 1) (q := 31) dX4_bank_28 rfl (by decide) rfl ?_
        refine go_goto (tgt := 4) dX4_bank_31 (by decide) ?_
        exact ih (f + 1) f (by omega) (by omega) (by omega) (by rw [show f + 1 - 1 = (f - 1) + 1 by omega]; unfold rch; rw [hb, show f - 1 + 1 = f by omega, if_pos (by omega)]) (by omega)

set_option maxHeartbeats 4000000 in
set_option maxRecDepth 100000 in
theorem r_bank {S : St} {N : Nat → Nat → Int64} {X : St} {Y : Nat → Int64} {Q : Option Value → AH → Prop} (hw : WF (X 0)) (hN : bl (X 0) (rch (bl (X 0)) 3) = 0 → ∀ X', Xf X X' 3 → Q (some (.int (-1000000004))) (hp S N X' Y)) (hO : ¬ bl (X 0) (rch (bl (X 0)) 3) = 0 → Q (some (.int (nI (rch (bl (X 0)) 3)))) (hp S N X Y)) : Cn 4 yX4_bank cX4_bank 3 (some .int) [.ref 69] (hp S N X Y) Q := by
  refine cn_of (own := RX4) (lo := [some (.ref 69), none, none]) 2 rfl (by decide +kernel) rfl (Nat.le_of_ble_eq_true rfl) ?_
  refine go_iconstN (n := 0) (q := 1) dX4_bank_0 rfl ?_
  refine go_istoren1 (q := 2) dX4_bank_1 rfl (by decide) rfl ?_
  refine go_iconstN (n := 1) (q := 3) dX4_bank_2 rfl ?_
  refine go_istoren2 (q := 4) dX4_bank_3 rfl (by decide) rfl ?_
  exact r_bank_4 hw hN hO 4 1 0 (by omega) (by omega) (by omega) rfl (by omega)

set_option maxHeartbeats 4000000 in
set_option maxRecDepth 100000 in
theorem r_best_94p {S : St} {N : Nat → Nat → Int64} {X : St} {Y : Nat → Int64} {Q : Option Value → AH → Prop} {c n : Nat} {X1 : St} (v1 : (wrt (monN (X 0) n) c) ≤ 980) (v2 : (wrt (X 0) c) ≤ 980) (v3 : (wrt (monN (u2 (X 0) 3 c 2) n) c) ≤ 980) (hsp : (2 ≤ sea (X 0) ∧ sea (X 0) ≤ 5)) (gx : Xp X X1 (X 0)) (hO : ∀ X', Xp X X' (X 0) → Q (some (.int (nI (bestV (wrt (monN (X 0) n) c) (wrt (X 0) c) (wrt (monN (u2 (X 0) 3 c 2) n) c) (2 ≤ sea (X 0) ∧ sea (X 0) ≤ 5))))) (hp S N X' Y)) : Go 11 RX4 cX4_best 7 (some .int) 94 [some (.ref 69), some (.int (nI c)), some (.int (nI n)), some (.int (nI (wrt (monN (X 0) n) c))), some (.int (nI (wrt (X 0) c))), some (.int (nI (wrt (monN (u2 (X 0) 3 c 2) n) c))), none] [] (hp S N X1 Y) Q := by
  refine go_iload4 (q := 96) dX4_best_94 rfl ?_
  refine go_iloadn3 (q := 97) dX4_best_96 rfl ?_
  refine go_icmp_leN (tgt := 104) (q := 100) dX4_best_97 (by decide) rfl (by omega) (by omega) (fun h1 => ?_) (fun h1 => ?_)
  · skip
    refine go_iconstN (n := 0) (q := 105) dX4_best_104 rfl ?_
    refine go_istore6 (q := 107) dX4_best_105 rfl (by decide) rfl ?_
    refine go_iload5 (q := 109) dX4_best_107 rfl ?_
    refine go_iload6 (q := 111) dX4_best_109 rfl ?_
    refine go_iconstN (n := 1) (q := 112) dX4_best_111 rfl ?_
    refine go_icmp_neN (tgt := 120) (q := 115) dX4_best_112 (by decide) rfl (by omega) (by omega) (fun h2 => ?_) (fun h2 => ?_)
    · skip
      refine go_iloadn3 (q := 121) dX4_best_120 rfl ?_
      refine go_icmp_leN (tgt := 128) (q := 124) dX4_best_121 (by decide) rfl (by omega) (by omega) (fun h3 => ?_) (fun h3 => ?_)
      · skip
        refine go_iload6 (q := 130) dX4_best_128 rfl ?_
        exact go_iretN dX4_best_130 rfl (show bestV (wrt (monN (X 0) n) c) (wrt (X 0) c) (wrt (monN (u2 (X 0) 3 c 2) n) c) (2 ≤ sea (X 0) ∧ sea (X 0) ≤ 5) = 0 by unfold bestV; rw [if_neg (fun w => by have := w.2; rw [if_neg (by omega)] at this; omega), if_neg (by omega)]) (hO _ gx)
      · skip
        refine go_iconstN (n := 2) (q := 125) dX4_best_124 rfl ?_
        refine go_goto (tgt := 130) dX4_best_125 (by decide) ?_
        exact go_iretN dX4_best_130 rfl (show bestV (wrt (monN (X 0) n) c) (wrt (X 0) c) (wrt (monN (u2 (X 0) 3 c 2) n) c) (2 ≤ sea (X 0) ∧ sea (X 0) ≤ 5) = 2 by unfold bestV; rw [if_pos ⟨hsp, by rw [if_neg (by omega)]; omega⟩]) (hO _ gx)
    · skip
      exact absurd h2 (by decide)
  · skip
    refine go_iconstN (n := 1) (q := 101) dX4_best_100 rfl ?_
    refine go_goto (tgt := 105) dX4_best_101 (by decide) ?_
    refine go_istore6 (q := 107) dX4_best_105 rfl (by decide) rfl ?_
    refine go_iload5 (q := 109) dX4_best_107 rfl ?_
    refine go_iload6 (q := 111) dX4_best_109 rfl ?_
    refine go_iconstN (n := 1) (q := 112) dX4_best_111 rfl ?_
    refine go_icmp_neN (tgt := 120) (q := 115) dX4_best_112 (by decide) rfl (by omega) (by omega) (fun h2 => ?_) (fun h2 => ?_)
    · skip
      exact absurd rfl h2
    · skip
      refine go_iload4 (q := 117) dX4_best_115 rfl ?_
      refine go_goto (tgt := 121) dX4_best_117 (by decide) ?_
      refine go_icmp_leN (tgt := 128) (q := 124) dX4_best_121 (by decide) rfl (by omega) (by omega) (fun h3 => ?_) (fun h3 => ?_)
      · skip
        refine go_iload6 (q := 130) dX4_best_128 rfl ?_
        exact go_iretN dX4_best_130 rfl (show bestV (wrt (monN (X 0) n) c) (wrt (X 0) c) (wrt (monN (u2 (X 0) 3 c 2) n) c) (2 ≤ sea (X 0) ∧ sea (X 0) ≤ 5) = 1 by unfold bestV; rw [if_neg (fun w => by have := w.2; rw [if_pos (by omega)] at this; omega), if_pos (by omega)]) (hO _ gx)
      · skip
        refine go_iconstN (n := 2) (q := 125) dX4_best_124 rfl ?_
        refine go_goto (tgt := 130) dX4_best_125 (by decide) ?_
        exact go_iretN dX4_best_130 rfl (show bestV (wrt (monN (X 0) n) c) (wrt (X 0) c) (wrt (monN (u2 (X 0) 3 c 2) n) c) (2 ≤ sea (X 0) ∧ sea (X 0) ≤ 5) = 2 by unfold bestV; rw [if_pos ⟨hsp, by rw [if_pos (by omega)]; omega⟩]) (hO _ gx)

set_option maxHeartbeats 4000000 in
set_option maxRecDepth 100000 in
theorem r_best_94n {S : St} {N : Nat → Nat → Int64} {X : St} {Y : Nat → Int64} {Q : Option Value → AH → Prop} {c n : Nat} {X1 : St} (v1 : (wrt (monN (X 0) n) c) ≤ 980) (v2 : (wrt (X 0) c) ≤ 980) (v3 : (wrt (monN (u2 (X 0) 3 c 2) n) c) ≤ 980) (hsp : ¬ (2 ≤ sea (X 0) ∧ sea (X 0) ≤ 5)) (gx : Xp X X1 (X 0)) (hO : ∀ X', Xp X X' (X 0) → Q (some (.int (nI (bestV (wrt (monN (X 0) n) c) (wrt (X 0) c) (wrt (monN (u2 (X 0) 3 c 2) n) c) (2 ≤ sea (X 0) ∧ sea (X 0) ≤ 5))))) (hp S N X' Y)) : Go 11 RX4 cX4_best 7 (some .int) 94 [some (.ref 69), some (.int (nI c)), some (.int (nI n)), some (.int (nI (wrt (monN (X 0) n) c))), some (.int (nI (wrt (X 0) c))), some (.int (-1)), none] [] (hp S N X1 Y) Q := by
  refine go_iload4 (q := 96) dX4_best_94 rfl ?_
  refine go_iloadn3 (q := 97) dX4_best_96 rfl ?_
  refine go_icmp_leN (tgt := 104) (q := 100) dX4_best_97 (by decide) rfl (by omega) (by omega) (fun h1 => ?_) (fun h1 => ?_)
  · skip
    refine go_iconstN (n := 0) (q := 105) dX4_best_104 rfl ?_
    refine go_istore6 (q := 107) dX4_best_105 rfl (by decide) rfl ?_
    refine go_iload5 (q := 109) dX4_best_107 rfl ?_
    refine go_iload6 (q := 111) dX4_best_109 rfl ?_
    refine go_iconstN (n := 1) (q := 112) dX4_best_111 rfl ?_
    refine go_icmp_neN (tgt := 120) (q := 115) dX4_best_112 (by decide) rfl (by omega) (by omega) (fun h2 => ?_) (fun h2 => ?_)
    · skip
      refine go_iloadn3 (q := 121) dX4_best_120 rfl ?_
      refine go_icmp_le (tgt := 128) (q := 124) dX4_best_121 (by decide) rfl (fun h3 => ?_) (fun h3 => ?_)
      · skip
        refine go_iload6 (q := 130) dX4_best_128 rfl ?_
        exact go_iretN dX4_best_130 rfl (show bestV (wrt (monN (X 0) n) c) (wrt (X 0) c) (wrt (monN (u2 (X 0) 3 c 2) n) c) (2 ≤ sea (X 0) ∧ sea (X 0) ≤ 5) = 0 by unfold bestV; rw [if_neg (fun w => hsp w.1), if_neg (by omega)]) (hO _ gx)
      · skip
        exact absurd (m1_le (by omega)) h3
    · skip
      exact absurd h2 (by decide)
  · skip
    refine go_iconstN (n := 1) (q := 101) dX4_best_100 rfl ?_
    refine go_goto (tgt := 105) dX4_best_101 (by decide) ?_
    refine go_istore6 (q := 107) dX4_best_105 rfl (by decide) rfl ?_
    refine go_iload5 (q := 109) dX4_best_107 rfl ?_
    refine go_iload6 (q := 111) dX4_best_109 rfl ?_
    refine go_iconstN (n := 1) (q := 112) dX4_best_111 rfl ?_
    refine go_icmp_neN (tgt := 120) (q := 115) dX4_best_112 (by decide) rfl (by omega) (by omega) (fun h2 => ?_) (fun h2 => ?_)
    · skip
      exact absurd rfl h2
    · skip
      refine go_iload4 (q := 117) dX4_best_115 rfl ?_
      refine go_goto (tgt := 121) dX4_best_117 (by decide) ?_
      refine go_icmp_le (tgt := 128) (q := 124) dX4_best_121 (by decide) rfl (fun h3 => ?_) (fun h3 => ?_)
      · skip
        refine go_iload6 (q := 130) dX4_best_128 rfl ?_
        exact go_iretN dX4_best_130 rfl (show bestV (wrt (monN (X 0) n) c) (wrt (X 0) c) (wrt (monN (u2 (X 0) 3 c 2) n) c) (2 ≤ sea (X 0) ∧ sea (X 0) ≤ 5) = 1 by unfold bestV; rw [if_neg (fun w => hsp w.1), if_pos (by omega)]) (hO _ gx)
      · skip
        exact absurd (m1_le (by omega)) h3

set_option maxHeartbeats 4000000 in
set_option maxRecDepth 100000 in
theorem r_best {S : St} {N : Nat → Nat → Int64} {X : St} {Y : Nat → Int64} {Q : Option Value → AH → Prop} {x z : Int32} (hw : WF (X 0)) (hl : WL (X 0)) (hB : ¬ (ic (X 0) x ∧ rg z 1 24) → ∀ X', Xf X X' 0 → Q (some (.int (-1000000001))) (hp S N X' Y)) (hS : ∀ c n, c < X 0 13 0 → 1 ≤ n → n ≤ 24 → x = nI c → z = nI n → ¬ (X 0 3 c = 0 ∧ ¬ 9999 < X 0 13 2 + n) → ∀ X', Xf X X' 4 → Q (some (.int (-1000000005))) (hp S N X' Y)) (hO : ∀ c n, c < X 0 13 0 → 1 ≤ n → n ≤ 24 → x = nI c → z = nI n → X 0 3 c = 0 → ¬ 9999 < X 0 13 2 + n → ∀ X', Xp X X' (X 0) → Q (some (.int (nI (bestV (wrt (monN (X 0) n) c) (wrt (X 0) c) (wrt (monN (u2 (X 0) 3 c 2) n) c) (2 ≤ sea (X 0) ∧ sea (X 0) ≤ 5))))) (hp S N X' Y)) : Cn 11 yX4_best cX4_best 7 (some .int) [.ref 69, .int x, .int z] (hp S N X Y) Q := by
  refine cn_of (own := RX4) (lo := [some (.ref 69), some (.int x), some (.int z), none, none, none, none]) 4 rfl (by decide +kernel) rfl (Nat.le_of_ble_eq_true rfl) ?_
  refine go_aloadn0 (q := 1) dX4_best_0 rfl ?_
  refine go_iloadn1 (q := 2) dX4_best_1 rfl ?_
  refine go_ix1 (q := 5) dX4_best_2 lk_X4_87 (by decide) (by decide) (Nat.le_of_ble_eq_true rfl) rfl (r_isCoin hw ?_)
  refine go_ifeqB (tgt := 20) (q := 8) dX4_best_5 (by decide) rfl (fun h1 => ?_) (fun h1 => ?_)
  · skip
    refine go_aloadn0 (q := 21) dX4_best_20 rfl ?_
    refine go_ldc (q := 23) dX4_best_21 ko_X4_42 rfl ?_
    refine go_ix1 (q := 26) dX4_best_23 lk_X4_57 (by decide) (by decide) (Nat.le_of_ble_eq_true rfl) rfl (r_finds (p := 0) (by decide) (by decide) ?_)
    exact go_iret dX4_best_26 rfl (hB (fun w => h1 w.1) _ (Xf.rf 0))
  · skip
    refine go_iloadn2 (q := 9) dX4_best_8 rfl ?_
    refine go_i2l (q := 10) dX4_best_9 rfl ?_
    refine go_lconst (q := 11) dX4_best_10 rfl ?_
    refine go_ldc2 (q := 14) dX4_best_11 ko_X4_167 rfl ?_
    refine go_is3_ (q := 17) dX4_best_14 lk_X4_49 (by decide) (by decide) (Nat.le_of_ble_eq_true rfl) rfl (r_isIn (l := 1) (m := 24) (by decide) (by decide) ?_)
    refine go_ifneB (tgt := 27) (q := 20) dX4_best_17 (by decide) rfl (fun h2 => ?_) (fun h2 => ?_)
    · skip
      obtain ⟨c, hc, hc12, rfl⟩ := ic_nat h1 hw
      obtain ⟨n, hn, rfl, hn1, -⟩ := rg_nat (n := 24) h2 (by omega) (by omega)
      refine go_aloadn0 (q := 28) dX4_best_27 rfl ?_
      refine go_iloadn1 (q := 29) dX4_best_28 rfl ?_
      refine go_iconstN (n := 3) (q := 30) dX4_best_29 rfl ?_
      refine go_ix2 (q := 33) dX4_best_30 lk_X4_84 (by decide) (by decide) (Nat.le_of_ble_eq_true rfl) rfl (r_is hc12 (by decide) ?_)
      refine go_if_neN (tgt := 44) (q := 36) dX4_best_33 (by decide) rfl (by have := hw.st c; omega) (fun h3 => ?_) (fun h3 => ?_)
      · skip
        refine go_aloadn0 (q := 45) dX4_best_44 rfl ?_
        refine go_ldc (q := 47) dX4_best_45 ko_X4_119 rfl ?_
        refine go_ix1 (q := 50) dX4_best_47 lk_X4_57 (by decide) (by decide) (Nat.le_of_ble_eq_true rfl) rfl (r_finds (p := 4) (by decide) (by decide) ?_)
        exact go_iret dX4_best_50 rfl (hS c n hc (by omega) hn rfl rfl (fun w => h3 w.1) _ (Xf.rf 4))
      · skip
        refine go_aloadn0 (q := 37) dX4_best_36 rfl ?_
        refine go_iloadn2 (q := 38) dX4_best_37 rfl ?_
        refine go_ix1 (q := 41) dX4_best_38 lk_X4_139 (by decide) (by decide) (Nat.le_of_ble_eq_true rfl) rfl (r_isFar hw (by omega) ?_)
        refine go_ifeqB (tgt := 51) (q := 44) dX4_best_41 (by decide) rfl (fun h4 => ?_) (fun h4 => ?_)
        · skip
          have hm : X 0 13 2 + n ≤ 10000 := by omega
          have hwu : WF (u2 (X 0) 3 c 2) := hw.upd (by omega)
          have v1 := wrt_le (wf_monN hw (n := n) hm).1 c
          have v2 := wrt_le hw c
          have v3 := wrt_le (wf_monN hwu (n := n) hm).1 c
          refine go_aloadn0 (q := 52) dX4_best_51 rfl ?_
          refine go_ix0 (q := 55) dX4_best_52 lk_X4_160 (by decide) (by decide) (Nat.le_of_ble_eq_true rfl) rfl (r_laysBy ?_)
          refine go_aloadn0 (q := 56) dX4_best_55 rfl ?_
          refine go_iloadn1 (q := 57) dX4_best_56 rfl ?_
          refine go_iloadn2 (q := 58) dX4_best_57 rfl ?_
          refine go_ix2 (q := 61) dX4_best_58 lk_X4_169 (by decide) (by decide) (Nat.le_of_ble_eq_true rfl) rfl (r_worthOn (X := uk X 2 (X 0)) hw hl hc12 (by omega) hm (fun X1 g1 => ?_))
          have e1 : X1 0 = X 0 := g1.1
          have e2 : X1 2 = X 0 := g1.2.2.1
          have hw1 : WF (X1 0) := by rw [e1]; exact hw
          refine go_istoren3 (q := 62) dX4_best_61 rfl (by decide) rfl ?_
          refine go_aloadn0 (q := 63) dX4_best_62 rfl ?_
          refine go_iloadn1 (q := 64) dX4_best_63 rfl ?_
          refine go_ix1 (q := 67) dX4_best_64 lk_X4_92 (by decide) (by decide) (Nat.le_of_ble_eq_true rfl) rfl (r_worth hw1 hc12 ?_)
          rw [e1]
          refine go_istore4 (q := 69) dX4_best_67 rfl (by decide) rfl ?_
          refine go_iconstV (v := -1) (q := 70) dX4_best_69 (by decide) rfl ?_
          refine go_istore5 (q := 72) dX4_best_70 rfl (by decide) rfl ?_
          refine go_aloadn0 (q := 73) dX4_best_72 rfl ?_
          refine go_ix0 (q := 76) dX4_best_73 lk_X4_115 (by decide) (by decide) (Nat.le_of_ble_eq_true rfl) rfl (r_isSpring hw1 ?_)
          rw [e1]
          refine go_ifeqB (tgt := 94) (q := 79) dX4_best_76 (by decide) rfl (fun h5 => ?_) (fun h5 => ?_)
          · skip
            exact r_best_94n v1 v2 v3 h5 ((Xp.by2 (X 0)).tr g1.p) (hO c n hc (by omega) hn rfl rfl h3 h4)
          · skip
            have eu : u3 X1 0 3 c 2 0 = u2 (X 0) 3 c 2 := by rw [u3_k, e1]
            have hwu1 : WF (u3 X1 0 3 c 2 0) := by rw [eu]; exact hwu
            have hlu : WL (u3 X1 0 3 c 2 0) := by rw [eu]; exact wl_u2 hl (by decide) (by decide)
            have hmu : u3 X1 0 3 c 2 0 13 2 + n ≤ 10000 := by rw [eu]; exact hm
            refine go_aloadn0 (q := 80) dX4_best_79 rfl ?_
            refine go_iloadn1 (q := 81) dX4_best_80 rfl ?_
            refine go_iconstN (n := 3) (q := 82) dX4_best_81 rfl ?_
            refine go_iconstN (n := 2) (q := 83) dX4_best_82 rfl ?_
            refine go_ix3 (q := 86) dX4_best_83 lk_X4_65 (by decide) (by decide) (Nat.le_of_ble_eq_true rfl) rfl (r_puts hc12 (by decide) ?_)
            refine go_aloadn0 (q := 87) dX4_best_86 rfl ?_
            refine go_iloadn1 (q := 88) dX4_best_87 rfl ?_
            refine go_iloadn2 (q := 89) dX4_best_88 rfl ?_
            refine go_ix2 (q := 92) dX4_best_89 lk_X4_169 (by decide) (by decide) (Nat.le_of_ble_eq_true rfl) rfl (r_worthOn (X := u3 X1 0 3 c 2) hwu1 hlu hc12 (by omega) hmu (fun X2 g2 => ?_))
            rw [eu]
            have g3 := ((g1.u 3 c 2).tr g2).to (show u3 X1 0 3 c 2 2 = X 0 from by rw [u3_oth _ (by decide)]; exact e2)
            refine go_istore5 (q := 94) dX4_best_92 rfl (by decide) rfl ?_
            exact r_best_94p v1 v2 v3 h5 ((Xp.by2 (X 0)).tr g3.p) (hO c n hc (by omega) hn rfl rfl h3 h4)
        · skip
          refine go_aloadn0 (q := 45) dX4_best_44 rfl ?_
          refine go_ldc (q := 47) dX4_best_45 ko_X4_119 rfl ?_
          refine go_ix1 (q := 50) dX4_best_47 lk_X4_57 (by decide) (by decide) (Nat.le_of_ble_eq_true rfl) rfl (r_finds (p := 4) (by decide) (by decide) ?_)
          exact go_iret dX4_best_50 rfl (hS c n hc (by omega) hn rfl rfl (fun w => w.2 h4) _ (Xf.rf 4))
    · skip
      refine go_aloadn0 (q := 21) dX4_best_20 rfl ?_
      refine go_ldc (q := 23) dX4_best_21 ko_X4_42 rfl ?_
      refine go_ix1 (q := 26) dX4_best_23 lk_X4_57 (by decide) (by decide) (Nat.le_of_ble_eq_true rfl) rfl (r_finds (p := 0) (by decide) (by decide) ?_)
      exact go_iret dX4_best_26 rfl (hB (fun w => h2 w.2) _ (Xf.rf 0))
