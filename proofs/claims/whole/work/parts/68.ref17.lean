def chJ (ch : Nat) : Int32 := if ch = 0 then -1 else nI ch
theorem swp_rf (M : Mk) (a : Nat) : swp M a a = M := by
  funext j i
  unfold swp
  by_cases h : j < 4
  · rw [if_pos h]
    by_cases e : i = a
    · rw [if_pos e, e]
    · rw [if_neg e, if_neg e]
  · rw [if_neg h]
theorem cin_no {ρ : Nat → Nat → Nat} {s0 st : Nat × Nat} {a b : Nat} (hab : a < b) (hst : cin ρ s0 a b = st) (h : ¬ ρ a b < st.1) : cin ρ s0 a (b + 1) = st := by
  show (if a < b then cst ρ (cin ρ s0 a b) a b else cin ρ s0 a b) = st
  rw [if_pos hab, hst]
  unfold cst
  rw [if_neg h]
theorem cin_yes {ρ : Nat → Nat → Nat} {s0 st : Nat × Nat} {a b : Nat} (hab : a < b) (hst : cin ρ s0 a b = st) (h : ρ a b < st.1) : cin ρ s0 a (b + 1) = (ρ a b, 100 * a + b) := by
  show (if a < b then cst ρ (cin ρ s0 a b) a b else cin ρ s0 a b) = _
  rw [if_pos hab, hst]
  unfold cst
  rw [if_pos h]

set_option maxHeartbeats 4000000 in
set_option maxRecDepth 100000 in
theorem r_cellar_81 {S : St} {N : Nat → Nat → Int64} {X : St} {Y : Nat → Int64} {Q : Option Value → AH → Prop} {n : Nat} (hw : WF (X 0)) (hl : WL (X 0)) (hn : n ≤ 60) (hm : X 0 13 2 + n ≤ 10000) {a : Nat} (ha : a < (X 0 13 0)) (hK : ∀ st X1, cin (fun a b => many (monN (swp (X 0) a b) n) 1) (cou (fun a b => many (monN (swp (X 0) a b) n) 1) (X 0 13 0) (many (monN (X 0) n) 1, 0) a) a (X 0 13 0) = st → Xc (uk X 2 (X 0)) X1 (X 0) → st.1 ≤ (X 0 13 0) → st.2 ≤ 1200 → Go 11 RX4 cX4_cellar 7 (some .int) 141 [some (.ref 69), some (.int (nI n)), some (.int (chJ st.2)), some (.int (nI ((X 0 13 0) - st.1))), some (.int (nI a)), none, none] [] (hp S N X1 Y) Q) : ∀ (fu : Nat) (b : Nat) (st : Nat × Nat) (X1 : St), (X 0 13 0) - b < fu → (a < b) → (b ≤ (X 0 13 0)) → (Xc (uk X 2 (X 0)) X1 (X 0)) → (cin (fun a b => many (monN (swp (X 0) a b) n) 1) (cou (fun a b => many (monN (swp (X 0) a b) n) 1) (X 0 13 0) (many (monN (X 0) n) 1, 0) a) a b = st) → (st.1 ≤ (X 0 13 0)) → (st.2 ≤ 1200) → Go 11 RX4 cX4_cellar 7 (some .int) 81 [some (.ref 69), some (.int (nI n)), some (.int (chJ st.2)), some (.int (nI ((X 0 13 0) - st.1))), some (.int (nI a)), some (.int (nI b)), none] [] (hp S N X1 Y) Q := by
  intro fu
  induction fu with
  | zero => intro b st X1 hfu; exact absurd hfu (Nat.not_lt_zero _)
  | succ fu ih =>
    intro b st X1 hfu hb1 hb g1 hst h1s h2s
    have hco := hw.co
    have e1 : X1 0 = X 0 := g1.1
    have e2 : X1 2 = X 0 := g1.2.2.1
    have ml : many (monN (swp (X 0) a b) n) 1 ≤ X 0 13 0 := by have := many_le (monN (swp (X 0) a b) n) 1; rw [monN_130] at this; exact this
    refine go_iload5 (q := 83) dX4_cellar_81 rfl ?_
    refine go_aloadn0 (q := 84) dX4_cellar_83 rfl ?_
    refine go_xg (q := 87) dX4_cellar_84 fl_X4_7 rfl rfl ?_
    refine go_iconstN (n := 0) (q := 88) dX4_cellar_87 rfl ?_
    refine go_rld (q := 89) dX4_cellar_88 (rr_13 (f := 0) (by decide)) rfl ?_
    rw [e1]
    refine go_icmp_geN (tgt := 141) (q := 92) dX4_cellar_89 (by decide) rfl (by omega) (by omega) (fun h1 => ?_) (fun h1 => ?_)
    · skip
      refine go_forget (lo' := [some (.ref 69), some (.int (nI n)), some (.int (chJ st.2)), some (.int (nI ((X 0 13 0) - st.1))), some (.int (nI a)), none, none]) (fun i v hi => by match i, hi with | 0, h => exact h | 1, h => exact h | 2, h => exact h | 3, h => exact h | 4, h => exact h | 5, h => cases h | 6, h => cases h) ?_
      exact hK st X1 (by rw [← hst, show b = X 0 13 0 by omega]) g1 h1s h2s
    · skip
      refine go_aloadn0 (q := 93) dX4_cellar_92 rfl ?_
      refine go_iload4 (q := 95) dX4_cellar_93 rfl ?_
      refine go_iload5 (q := 97) dX4_cellar_95 rfl ?_
      refine go_iloadn1 (q := 98) dX4_cellar_97 rfl ?_
      refine go_ix3 (q := 101) dX4_cellar_98 lk_X4_174 (by decide) (by decide) (Nat.le_of_ble_eq_true rfl) rfl (r_goodBy (X := X1) (by rw [e1]; exact hw) (by rw [e1]; exact hl) (by omega) (by omega) (by omega) (by rw [e1]; exact hm) (fun X2 g2 => ?_))
      rw [e2] at g2
      rw [e1]
      refine go_istore6 (q := 103) dX4_cellar_101 rfl (by decide) rfl ?_
      refine go_iload6 (q := 105) dX4_cellar_103 rfl ?_
      refine go_iloadn3 (q := 106) dX4_cellar_105 rfl ?_
      refine go_icmp_leN (tgt := 120) (q := 109) dX4_cellar_106 (by decide) rfl (by omega) (by omega) (fun h2 => ?_) (fun h2 => ?_)
      · skip
        refine go_iloadn2 (q := 121) dX4_cellar_120 rfl ?_
        refine go_istoren2 (q := 122) dX4_cellar_121 rfl (by decide) rfl ?_
        refine go_iload6 (q := 124) dX4_cellar_122 rfl ?_
        refine go_iloadn3 (q := 125) dX4_cellar_124 rfl ?_
        refine go_icmp_leN (tgt := 133) (q := 128) dX4_cellar_125 (by decide) rfl (by omega) (by omega) (fun h3 => ?_) (fun h3 => ?_)
        · skip
          refine go_iloadn3 (q := 134) dX4_cellar_133 rfl ?_
          refine go_istoren3 (q := 135) dX4_cellar_134 rfl (by decide) rfl ?_
          refine go_iincN5 (n := 1) (q := 138) dX4_cellar_135 rfl (by decide) rfl ?_
          refine go_goto (tgt := 81) dX4_cellar_138 (by decide) ?_
          refine go_forget (lo' := [some (.ref 69), some (.int (nI n)), some (.int (chJ st.2)), some (.int (nI ((X 0 13 0) - st.1))), some (.int (nI a)), some (.int (nI (b + 1))), none]) (fun i v hi => by match i, hi with | 0, h => exact h | 1, h => exact h | 2, h => exact h | 3, h => exact h | 4, h => exact h | 5, h => exact h | 6, h => cases h) ?_
          exact ih (b + 1) st X2 (by omega) (by omega) (by omega) (g1.tr g2) (cin_no hb1 hst (by omega)) (h1s) (h2s)
        · skip
          exact absurd h2 h3
      · skip
        refine go_bipushN (v := 100) (q := 111) dX4_cellar_109 (by decide) rfl ?_
        refine go_iload4 (q := 113) dX4_cellar_111 rfl ?_
        refine go_imulN (q := 114) dX4_cellar_113 rfl ?_
        refine go_iload5 (q := 116) dX4_cellar_114 rfl ?_
        refine go_iaddN (q := 117) dX4_cellar_116 rfl ?_
        refine go_goto (tgt := 121) dX4_cellar_117 (by decide) ?_
        refine go_istoren2 (q := 122) dX4_cellar_121 rfl (by decide) rfl ?_
        refine go_iload6 (q := 124) dX4_cellar_122 rfl ?_
        refine go_iloadn3 (q := 125) dX4_cellar_124 rfl ?_
        refine go_icmp_leN (tgt := 133) (q := 128) dX4_cellar_125 (by decide) rfl (by omega) (by omega) (fun h3 => ?_) (fun h3 => ?_)
        · skip
          exact absurd h3 h2
        · skip
          refine go_iload6 (q := 130) dX4_cellar_128 rfl ?_
          refine go_goto (tgt := 134) dX4_cellar_130 (by decide) ?_
          refine go_istoren3 (q := 135) dX4_cellar_134 rfl (by decide) rfl ?_
          refine go_iincN5 (n := 1) (q := 138) dX4_cellar_135 rfl (by decide) rfl ?_
          refine go_goto (tgt := 81) dX4_cellar_138 (by decide) ?_
          refine go_forget (lo' := [some (.ref 69), some (.int (nI n)), some (.int (nI (100 * a + b))), some (.int (nI ((X 0 13 0) - many (monN (swp (X 0) a b) n) 1))), some (.int (nI a)), some (.int (nI (b + 1))), none]) (fun i v hi => by match i, hi with | 0, h => exact h | 1, h => exact h | 2, h => exact h | 3, h => exact h | 4, h => exact h | 5, h => exact h | 6, h => cases h) ?_
          have hJ : chJ (100 * a + b) = nI (100 * a + b) := if_neg (by omega)
          have h := ih (b + 1) (many (monN (swp (X 0) a b) n) 1, 100 * a + b) X2 (by omega) (by omega) (by omega) (g1.tr g2) (cin_yes hb1 hst (by omega)) ml (by show 100 * a + b ≤ 1200; omega)
          simp only at h
          rw [hJ] at h
          exact h

set_option maxHeartbeats 4000000 in
set_option maxRecDepth 100000 in
theorem r_cellar_147 {S : St} {N : Nat → Nat → Int64} {X : St} {Y : Nat → Int64} {Q : Option Value → AH → Prop} {n : Nat} (hw : WF (X 0)) (hl : WL (X 0)) (hn : n ≤ 60) (hm : X 0 13 2 + n ≤ 10000) (hO : (cou (fun a b => many (monN (swp (X 0) a b) n) 1) (X 0 13 0) (many (monN (X 0) n) 1, 0) (X 0 13 0)).2 ≠ 0 → ∀ X', Xp X X' (X 0) → Q (some (.int (nI (cou (fun a b => many (monN (swp (X 0) a b) n) 1) (X 0 13 0) (many (monN (X 0) n) 1, 0) (X 0 13 0)).2))) (hp S N X' Y)) (hN : (cou (fun a b => many (monN (swp (X 0) a b) n) 1) (X 0 13 0) (many (monN (X 0) n) 1, 0) (X 0 13 0)).2 = 0 → ∀ X', Xf X X' 3 → Q (some (.int (-1000000004))) (hp S N X' Y)) {X1 : St} {a4 a5 a6 a3 : Option Value} (g1 : Xc (uk X 2 (X 0)) X1 (X 0)) (h2s : (cou (fun a b => many (monN (swp (X 0) a b) n) 1) (X 0 13 0) (many (monN (X 0) n) 1, 0) (X 0 13 0)).2 ≤ 1200) : Go 11 RX4 cX4_cellar 7 (some .int) 147 [some (.ref 69), some (.int (nI n)), some (.int (chJ (cou (fun a b => many (monN (swp (X 0) a b) n) 1) (X 0 13 0) (many (monN (X 0) n) 1, 0) (X 0 13 0)).2)), a3, a4, a5, a6] [] (hp S N X1 Y) Q := by
  have gp := (Xp.by2 (X 0)).tr g1.p
  generalize (cou (fun a b => many (monN (swp (X 0) a b) n) 1) (X 0 13 0) (many (monN (X 0) n) 1, 0) (X 0 13 0)).2 = ch at hO hN h2s ⊢
  refine go_iloadn2 (q := 148) dX4_cellar_147 rfl ?_
  by_cases hz : ch = 0
  · subst hz
    refine go_if_ge (tgt := 160) (q := 151) dX4_cellar_148 (by decide) rfl (fun z => absurd z (by decide)) (fun _ => ?_)
    refine go_aloadn0 (q := 152) dX4_cellar_151 rfl ?_
    refine go_ldc (q := 154) dX4_cellar_152 ko_X4_166 rfl ?_
    refine go_ix1 (q := 157) dX4_cellar_154 lk_X4_57 (by decide) (by decide) (Nat.le_of_ble_eq_true rfl) rfl (r_finds (p := 3) (by decide) (by decide) ?_)
    refine go_goto (tgt := 161) dX4_cellar_157 (by decide) ?_
    exact go_iret dX4_cellar_161 rfl (hN rfl _ (gp.f 3))
  · rw [show chJ ch = nI ch from if_neg hz]
    refine go_if_geN (x := ch) (tgt := 160) (q := 151) dX4_cellar_148 (by decide) rfl (by omega) (fun _ => ?_) (fun z => absurd trivial z)
    refine go_iloadn2 (q := 161) dX4_cellar_160 rfl ?_
    exact go_iret dX4_cellar_161 rfl (hO hz _ gp)

set_option maxHeartbeats 4000000 in
set_option maxRecDepth 100000 in
theorem r_cellar_64 {S : St} {N : Nat → Nat → Int64} {X : St} {Y : Nat → Int64} {Q : Option Value → AH → Prop} {n : Nat} (hw : WF (X 0)) (hl : WL (X 0)) (hn : n ≤ 60) (hm : X 0 13 2 + n ≤ 10000) (hO : (cou (fun a b => many (monN (swp (X 0) a b) n) 1) (X 0 13 0) (many (monN (X 0) n) 1, 0) (X 0 13 0)).2 ≠ 0 → ∀ X', Xp X X' (X 0) → Q (some (.int (nI (cou (fun a b => many (monN (swp (X 0) a b) n) 1) (X 0 13 0) (many (monN (X 0) n) 1, 0) (X 0 13 0)).2))) (hp S N X' Y)) (hN : (cou (fun a b => many (monN (swp (X 0) a b) n) 1) (X 0 13 0) (many (monN (X 0) n) 1, 0) (X 0 13 0)).2 = 0 → ∀ X', Xf X X' 3 → Q (some (.int (-1000000004))) (hp S N X' Y)) : ∀ (fu : Nat) (a : Nat) (st : Nat × Nat) (X1 : St), (X 0 13 0) - a < fu → (a ≤ (X 0 13 0)) → (Xc (uk X 2 (X 0)) X1 (X 0)) → ((cou (fun a b => many (monN (swp (X 0) a b) n) 1) (X 0 13 0) (many (monN (X 0) n) 1, 0) a) = st) → (st.1 ≤ (X 0 13 0)) → (st.2 ≤ 1200) → Go 11 RX4 cX4_cellar 7 (some .int) 64 [some (.ref 69), some (.int (nI n)), some (.int (chJ st.2)), some (.int (nI ((X 0 13 0) - st.1))), some (.int (nI a)), none, none] [] (hp S N X1 Y) Q := by
  intro fu
  induction fu with
  | zero => intro a st X1 hfu; exact absurd hfu (Nat.not_lt_zero _)
  | succ fu ih =>
    intro a st X1 hfu ha g1 hst h1s h2s
    have hco := hw.co
    have e1 : X1 0 = X 0 := g1.1
    refine go_iload4 (q := 66) dX4_cellar_64 rfl ?_
    refine go_aloadn0 (q := 67) dX4_cellar_66 rfl ?_
    refine go_xg (q := 70) dX4_cellar_67 fl_X4_7 rfl rfl ?_
    refine go_iconstN (n := 0) (q := 71) dX4_cellar_70 rfl ?_
    refine go_rld (q := 72) dX4_cellar_71 (rr_13 (f := 0) (by decide)) rfl ?_
    rw [e1]
    refine go_icmp_geN (tgt := 147) (q := 75) dX4_cellar_72 (by decide) rfl (by omega) (by omega) (fun h1 => ?_) (fun h1 => ?_)
    · skip
      obtain rfl : a = X 0 13 0 := by omega
      subst hst
      exact r_cellar_147 hw hl hn hm hO hN g1 h2s
    · skip
      refine go_iload4 (q := 77) dX4_cellar_75 rfl ?_
      refine go_iconstN (n := 1) (q := 78) dX4_cellar_77 rfl ?_
      refine go_iaddN (q := 79) dX4_cellar_78 rfl ?_
      refine go_istore5 (q := 81) dX4_cellar_79 rfl (by decide) rfl ?_
      refine r_cellar_81 hw hl hn hm (by omega) (fun st2 X2 hc g2 q1 q2 => ?_) (X 0 13 0 - (a + 1) + 1) (a + 1) st X1 (by omega) (by omega) (by omega) g1 (by rw [cin_le (a + 1) (Nat.le_refl _)]; exact hst) h1s h2s
      refine go_iincN4 (n := 1) (q := 144) dX4_cellar_141 rfl (by decide) rfl ?_
      refine go_goto (tgt := 64) dX4_cellar_144 (by decide) ?_
      exact ih (a + 1) st2 X2 (by omega) (by omega) g2 hc q1 q2

set_option maxHeartbeats 4000000 in
set_option maxRecDepth 100000 in
theorem r_cellar {S : St} {N : Nat → Nat → Int64} {X : St} {Y : Nat → Int64} {Q : Option Value → AH → Prop} {z : Int32} (hw : WF (X 0)) (hl : WL (X 0)) (hB : ¬ rg z 1 60 → ∀ X', Xf X X' 0 → Q (some (.int (-1000000001))) (hp S N X' Y)) (hS : ∀ n, 1 ≤ n → n ≤ 60 → z = nI n → 9999 < X 0 13 2 + n → ∀ X', Xf X X' 4 → Q (some (.int (-1000000005))) (hp S N X' Y)) (hO : ∀ n, 1 ≤ n → n ≤ 60 → z = nI n → ¬ 9999 < X 0 13 2 + n → (cou (fun a b => many (monN (swp (X 0) a b) n) 1) (X 0 13 0) (many (monN (X 0) n) 1, 0) (X 0 13 0)).2 ≠ 0 → ∀ X', Xp X X' (X 0) → Q (some (.int (nI (cou (fun a b => many (monN (swp (X 0) a b) n) 1) (X 0 13 0) (many (monN (X 0) n) 1, 0) (X 0 13 0)).2))) (hp S N X' Y)) (hN : ∀ n, 1 ≤ n → n ≤ 60 → z = nI n → ¬ 9999 < X 0 13 2 + n → (cou (fun a b => many (monN (swp (X 0) a b) n) 1) (X 0 13 0) (many (monN (X 0) n) 1, 0) (X 0 13 0)).2 = 0 → ∀ X', Xf X X' 3 → Q (some (.int (-1000000004))) (hp S N X' Y)) : Cn 11 yX4_cellar cX4_cellar 7 (some .int) [.ref 69, .int z] (hp S N X Y) Q := by
  refine cn_of (own := RX4) (lo := [some (.ref 69), some (.int z), none, none, none, none, none]) 5 rfl (by decide +kernel) rfl (Nat.le_of_ble_eq_true rfl) ?_
  refine go_iloadn1 (q := 1) dX4_cellar_0 rfl ?_
  refine go_i2l (q := 2) dX4_cellar_1 rfl ?_
  refine go_lconst (q := 3) dX4_cellar_2 rfl ?_
  refine go_ldc2 (q := 6) dX4_cellar_3 ko_X4_172 rfl ?_
  refine go_is3_ (q := 9) dX4_cellar_6 lk_X4_49 (by decide) (by decide) (Nat.le_of_ble_eq_true rfl) rfl (r_isIn (l := 1) (m := 60) (by decide) (by decide) ?_)
  refine go_ifneB (tgt := 19) (q := 12) dX4_cellar_9 (by decide) rfl (fun h1 => ?_) (fun h1 => ?_)
  · skip
    obtain ⟨n, hn, rfl, hn1, -⟩ := rg_nat (n := 60) h1 (by omega) (by omega)
    refine go_aloadn0 (q := 20) dX4_cellar_19 rfl ?_
    refine go_iloadn1 (q := 21) dX4_cellar_20 rfl ?_
    refine go_ix1 (q := 24) dX4_cellar_21 lk_X4_139 (by decide) (by decide) (Nat.le_of_ble_eq_true rfl) rfl (r_isFar hw (by omega) ?_)
    refine go_ifeqB (tgt := 34) (q := 27) dX4_cellar_24 (by decide) rfl (fun h3 => ?_) (fun h3 => ?_)
    · skip
      refine go_aloadn0 (q := 35) dX4_cellar_34 rfl ?_
      refine go_ix0 (q := 38) dX4_cellar_35 lk_X4_160 (by decide) (by decide) (Nat.le_of_ble_eq_true rfl) rfl (r_laysBy ?_)
      have hco := hw.co
      have hm : X 0 13 2 + n ≤ 10000 := by omega
      refine go_iconstV (v := -1) (q := 39) dX4_cellar_38 (by decide) rfl ?_
      refine go_istoren2 (q := 40) dX4_cellar_39 rfl (by decide) rfl ?_
      refine go_aloadn0 (q := 41) dX4_cellar_40 rfl ?_
      refine go_xg (q := 44) dX4_cellar_41 fl_X4_7 rfl rfl ?_
      refine go_iconstN (n := 0) (q := 45) dX4_cellar_44 rfl ?_
      refine go_rld (q := 46) dX4_cellar_45 (rr_13 (f := 0) (by decide)) rfl ?_
      refine go_st (st' := [.int (nI (X 0 13 0))]) rfl ?_
      refine go_if_neN (tgt := 53) (q := 49) dX4_cellar_46 (by decide) rfl (by omega) (fun h4 => ?_) (fun h4 => ?_)
      · skip
        refine go_aloadn0 (q := 54) dX4_cellar_53 rfl ?_
        refine go_iconstN (n := 0) (q := 55) dX4_cellar_54 rfl ?_
        refine go_iconstN (n := 0) (q := 56) dX4_cellar_55 rfl ?_
        refine go_iloadn1 (q := 57) dX4_cellar_56 rfl ?_
        refine go_ix3 (q := 60) dX4_cellar_57 lk_X4_174 (by decide) (by decide) (Nat.le_of_ble_eq_true rfl) rfl (r_goodBy (X := uk X 2 (X 0)) hw hl (by decide) (by decide) (by omega) hm (fun X2 g2 => ?_))
        refine go_st (st' := [.int (nI (X 0 13 0 - many (monN (X 0) n) 1))]) (by rw [show uk X 2 (X 0) 0 = X 0 from rfl, swp_rf]) ?_
        refine go_istoren3 (q := 61) dX4_cellar_60 rfl (by decide) rfl ?_
        refine go_iconstN (n := 0) (q := 62) dX4_cellar_61 rfl ?_
        refine go_istore4 (q := 64) dX4_cellar_62 rfl (by decide) rfl ?_
        have hml : many (monN (X 0) n) 1 ≤ X 0 13 0 := by have := many_le (monN (X 0) n) 1; rw [monN_130] at this; exact this
        refine go_forget (lo' := [some (.ref 69), some (.int (nI n)), some (.int (-1)), some (.int (nI (X 0 13 0 - many (monN (X 0) n) 1))), some (.int (nI 0)), none, none]) (fun i v hi => by match i, hi with | 0, h => exact h | 1, h => exact h | 2, h => exact h | 3, h => exact h | 4, h => exact h | 5, h => cases h | 6, h => cases h) ?_
        exact r_cellar_64 hw hl hn hm (hO n (by omega) hn rfl h3) (hN n (by omega) hn rfl h3) (X 0 13 0 + 1) 0 (many (monN (X 0) n) 1, 0) X2 (by omega) (by omega) g2 rfl hml (Nat.zero_le _)
      · skip
        refine go_iconstN (n := 0) (q := 50) dX4_cellar_49 rfl ?_
        refine go_goto (tgt := 60) dX4_cellar_50 (by decide) ?_
        refine go_st (st' := [.int (nI (X 0 13 0 - many (monN (X 0) n) 1))]) (by rw [h4, Nat.zero_sub]) ?_
        refine go_istoren3 (q := 61) dX4_cellar_60 rfl (by decide) rfl ?_
        refine go_iconstN (n := 0) (q := 62) dX4_cellar_61 rfl ?_
        refine go_istore4 (q := 64) dX4_cellar_62 rfl (by decide) rfl ?_
        have hml : many (monN (X 0) n) 1 ≤ X 0 13 0 := by have := many_le (monN (X 0) n) 1; rw [monN_130] at this; exact this
        refine go_forget (lo' := [some (.ref 69), some (.int (nI n)), some (.int (-1)), some (.int (nI (X 0 13 0 - many (monN (X 0) n) 1))), some (.int (nI 0)), none, none]) (fun i v hi => by match i, hi with | 0, h => exact h | 1, h => exact h | 2, h => exact h | 3, h => exact h | 4, h => exact h | 5, h => cases h | 6, h => cases h) ?_
        exact r_cellar_64 hw hl hn hm (hO n (by omega) hn rfl h3) (hN n (by omega) hn rfl h3) (X 0 13 0 + 1) 0 (many (monN (X 0) n) 1, 0) _ (by omega) (by omega) Xc.rf rfl hml (Nat.zero_le _)
    · skip
      refine go_aloadn0 (q := 28) dX4_cellar_27 rfl ?_
      refine go_ldc (q := 30) dX4_cellar_28 ko_X4_119 rfl ?_
      refine go_ix1 (q := 33) dX4_cellar_30 lk_X4_57 (by decide) (by decide) (Nat.le_of_ble_eq_true rfl) rfl (r_finds (p := 4) (by decide) (by decide) ?_)
      exact go_iret dX4_cellar_33 rfl (hS n (by omega) hn rfl h3 _ (Xf.rf 4))
  · skip
    refine go_aloadn0 (q := 13) dX4_cellar_12 rfl ?_
    refine go_ldc (q := 15) dX4_cellar_13 ko_X4_42 rfl ?_
    refine go_ix1 (q := 18) dX4_cellar_15 lk_X4_57 (by decide) (by decide) (Nat.le_of_ble_eq_true rfl) rfl (r_finds (p := 0) (by decide) (by decide) ?_)
    exact go_iret dX4_cellar_18 rfl (hB h1 _ (Xf.rf 0))
