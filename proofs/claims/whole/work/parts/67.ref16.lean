theorem fb_1 {F : Nat → Nat} {a : Nat} : fb F a 1 = 0 := by
  show (if sub 0 a ∧ (0 = 0 ∨ F (fb F a 0) < F 0) then 0 else fb F a 0) = 0
  split <;> rfl
theorem fb_no {F : Nat → Nat} {a t b : Nat} (hb : fb F a t = b) (h : ¬ (sub t a ∧ (t = 0 ∨ F (fb F a t) < F t))) : fb F a (t + 1) = b := by
  show (if sub t a ∧ (t = 0 ∨ F (fb F a t) < F t) then t else fb F a t) = b
  rw [if_neg h, hb]
theorem fb_yes {F : Nat → Nat} {a t : Nat} (hs : sub t a) (h : t = 0 ∨ F (fb F a t) < F t) : fb F a (t + 1) = t := by
  show (if sub t a ∧ (t = 0 ∨ F (fb F a t) < F t) then t else fb F a t) = t
  rw [if_pos ⟨hs, h⟩]

set_option maxHeartbeats 4000000 in
set_option maxRecDepth 100000 in
theorem r_field_83 {S : St} {N : Nat → Nat → Int64} {X : St} {Y : Nat → Int64} {Q : Option Value → AH → Prop} {f n : Nat} (hw : WF (X 0)) (hl : WL (X 0)) (hf : f ≤ 3) (hn : n ≤ 24) (hm : X 0 13 2 + n ≤ 10000) (hO : ∀ X', Xp X X' (X 0) → Q (some (.int (nI (fb (fun s => purse (monN (plantS (X 0) s (X 0 13 0)) n) f) (sets (X 0) f) ((sets (X 0) f) + 1))))) (hp S N X' Y)) : ∀ (fu : Nat) (t b : Nat) (X1 : St), (sets (X 0) f) + 1 - t < fu → (1 ≤ t) → (t ≤ (sets (X 0) f) + 1) → (Xc (uk X 2 (X 0)) X1 (X 0)) → (fb (fun s => purse (monN (plantS (X 0) s (X 0 13 0)) n) f) (sets (X 0) f) t = b) → (b < t) → Go 11 RX4 cX4_field 8 (some .int) 83 [some (.ref 69), some (.int (nI f)), some (.int (nI n)), some (.int (nI (sets (X 0) f))), some (.int (nI b)), some (.int (nI (purse (monN (plantS (X 0) b (X 0 13 0)) n) f))), some (.int (nI t)), none] [] (hp S N X1 Y) Q := by
  intro fu
  induction fu with
  | zero => intro t b X1 hfu; exact absurd hfu (Nat.not_lt_zero _)
  | succ fu ih =>
    intro t b X1 hfu ht1 ht g1 hb hb2
    have hA : sets (X 0) f < 2 ^ X 0 13 0 := setS_lt _ _
    have h12 : 2 ^ X 0 13 0 ≤ 2 ^ 12 := Nat.pow_le_pow_right (by decide) hw.co
    have hA2 : sets (X 0) f < 4096 := Nat.lt_of_lt_of_le hA h12
    have vb : ∀ s, (purse (monN (plantS (X 0) s (X 0 13 0)) n) f) ≤ 12 * 980 := fun s => purse_le (wf_monN (wf_plantS hw s (X 0 13 0)) (n := n) (by rw [plantS_13]; exact hm)).1 f
    have e1 : X1 0 = X 0 := g1.1
    have e2 : X1 2 = X 0 := g1.2.2.1
    have w1 := vb b
    have w2 := vb t
    refine go_iload6 (q := 85) dX4_field_83 rfl ?_
    refine go_iloadn3 (q := 86) dX4_field_85 rfl ?_
    refine go_icmp_gtN (tgt := 150) (q := 89) dX4_field_86 (by decide) rfl (by omega) (by omega) (fun h1 => ?_) (fun h1 => ?_)
    · skip
      refine go_iload4 (q := 152) dX4_field_150 rfl ?_
      exact go_iretN dX4_field_152 rfl (by rw [← hb, show t = (sets (X 0) f) + 1 by omega]) (hO _ ((Xp.by2 (X 0)).tr g1.p))
    · skip
      refine go_iload6 (q := 91) dX4_field_89 rfl ?_
      refine go_iloadn3 (q := 92) dX4_field_91 rfl ?_
      refine go_iconstV (v := -1) (q := 93) dX4_field_92 (by decide) rfl ?_
      refine go_ixor (q := 94) dX4_field_93 rfl ?_
      refine go_iand (q := 95) dX4_field_94 rfl ?_
      refine go_if_ne (tgt := 109) (q := 98) dX4_field_95 (by decide) rfl (fun h2 => ?_) (fun h2 => ?_)
      · skip
        have hns : ¬ sub t (sets (X 0) f) := fun z => h2 ((m_sub (by omega) hA2).mpr z)
        refine go_iconstV (v := -1) (q := 110) dX4_field_109 (by decide) rfl ?_
        refine go_istore7 (q := 112) dX4_field_110 rfl (by decide) rfl ?_
        refine go_iload7 (q := 114) dX4_field_112 rfl ?_
        refine go_iload5 (q := 116) dX4_field_114 rfl ?_
        refine go_icmp_le (tgt := 124) (q := 119) dX4_field_116 (by decide) rfl (fun h3 => ?_) (fun h3 => ?_)
        · skip
          refine go_iload4 (q := 126) dX4_field_124 rfl ?_
          refine go_istore4 (q := 128) dX4_field_126 rfl (by decide) rfl ?_
          refine go_iload7 (q := 130) dX4_field_128 rfl ?_
          refine go_iload5 (q := 132) dX4_field_130 rfl ?_
          refine go_icmp_le (tgt := 140) (q := 135) dX4_field_132 (by decide) rfl (fun h4 => ?_) (fun h4 => ?_)
          · skip
            refine go_iload5 (q := 142) dX4_field_140 rfl ?_
            refine go_istore5 (q := 144) dX4_field_142 rfl (by decide) rfl ?_
            refine go_iincN6 (n := 1) (q := 147) dX4_field_144 rfl (by decide) rfl ?_
            refine go_goto (tgt := 83) dX4_field_147 (by decide) ?_
            refine go_forget (lo' := [some (.ref 69), some (.int (nI f)), some (.int (nI n)), some (.int (nI (sets (X 0) f))), some (.int (nI b)), some (.int (nI (purse (monN (plantS (X 0) b (X 0 13 0)) n) f))), some (.int (nI (t + 1))), none]) (fun i v hi => by match i, hi with | 0, h => exact h | 1, h => exact h | 2, h => exact h | 3, h => exact h | 4, h => exact h | 5, h => exact h | 6, h => exact h | 7, h => cases h) ?_
            exact ih (t + 1) b X1 (by omega) (by omega) (by omega) g1 (fb_no hb (fun w => hns w.1)) (by omega)
          · skip
            exact absurd (m1_le (by omega)) h4
        · skip
          exact absurd (m1_le (by omega)) h3
      · skip
        have hs : sub t (sets (X 0) f) := (m_sub (by omega) hA2).mp h2
        refine go_aloadn0 (q := 99) dX4_field_98 rfl ?_
        refine go_iloadn1 (q := 100) dX4_field_99 rfl ?_
        refine go_iload6 (q := 102) dX4_field_100 rfl ?_
        refine go_iloadn2 (q := 103) dX4_field_102 rfl ?_
        refine go_ix3 (q := 106) dX4_field_103 lk_X4_181 (by decide) (by decide) (Nat.le_of_ble_eq_true rfl) rfl (r_purseBy (X := X1) (by rw [e1]; exact hw) (by rw [e1]; exact hl) hf (by omega) (by omega) (by rw [e1]; exact hm) (fun X2 g2 => ?_))
        rw [e2] at g2
        rw [e1]
        refine go_goto (tgt := 110) dX4_field_106 (by decide) ?_
        refine go_istore7 (q := 112) dX4_field_110 rfl (by decide) rfl ?_
        refine go_iload7 (q := 114) dX4_field_112 rfl ?_
        refine go_iload5 (q := 116) dX4_field_114 rfl ?_
        refine go_icmp_leN (tgt := 124) (q := 119) dX4_field_116 (by decide) rfl (by omega) (by omega) (fun h3 => ?_) (fun h3 => ?_)
        · skip
          refine go_iload4 (q := 126) dX4_field_124 rfl ?_
          refine go_istore4 (q := 128) dX4_field_126 rfl (by decide) rfl ?_
          refine go_iload7 (q := 130) dX4_field_128 rfl ?_
          refine go_iload5 (q := 132) dX4_field_130 rfl ?_
          refine go_icmp_leN (tgt := 140) (q := 135) dX4_field_132 (by decide) rfl (by omega) (by omega) (fun h4 => ?_) (fun h4 => ?_)
          · skip
            refine go_iload5 (q := 142) dX4_field_140 rfl ?_
            refine go_istore5 (q := 144) dX4_field_142 rfl (by decide) rfl ?_
            refine go_iincN6 (n := 1) (q := 147) dX4_field_144 rfl (by decide) rfl ?_
            refine go_goto (tgt := 83) dX4_field_147 (by decide) ?_
            refine go_forget (lo' := [some (.ref 69), some (.int (nI f)), some (.int (nI n)), some (.int (nI (sets (X 0) f))), some (.int (nI b)), some (.int (nI (purse (monN (plantS (X 0) b (X 0 13 0)) n) f))), some (.int (nI (t + 1))), none]) (fun i v hi => by match i, hi with | 0, h => exact h | 1, h => exact h | 2, h => exact h | 3, h => exact h | 4, h => exact h | 5, h => exact h | 6, h => exact h | 7, h => cases h) ?_
            exact ih (t + 1) b X2 (by omega) (by omega) (by omega) (g1.tr g2) (fb_no hb (fun w => w.2.elim (by omega) (fun y => by rw [hb] at y; omega))) (by omega)
          · skip
            exact absurd h3 h4
        · skip
          refine go_iload6 (q := 121) dX4_field_119 rfl ?_
          refine go_goto (tgt := 126) dX4_field_121 (by decide) ?_
          refine go_istore4 (q := 128) dX4_field_126 rfl (by decide) rfl ?_
          refine go_iload7 (q := 130) dX4_field_128 rfl ?_
          refine go_iload5 (q := 132) dX4_field_130 rfl ?_
          refine go_icmp_leN (tgt := 140) (q := 135) dX4_field_132 (by decide) rfl (by omega) (by omega) (fun h4 => ?_) (fun h4 => ?_)
          · skip
            exact absurd h4 h3
          · skip
            refine go_iload7 (q := 137) dX4_field_135 rfl ?_
            refine go_goto (tgt := 142) dX4_field_137 (by decide) ?_
            refine go_istore5 (q := 144) dX4_field_142 rfl (by decide) rfl ?_
            refine go_iincN6 (n := 1) (q := 147) dX4_field_144 rfl (by decide) rfl ?_
            refine go_goto (tgt := 83) dX4_field_147 (by decide) ?_
            refine go_forget (lo' := [some (.ref 69), some (.int (nI f)), some (.int (nI n)), some (.int (nI (sets (X 0) f))), some (.int (nI t)), some (.int (nI (purse (monN (plantS (X 0) t (X 0 13 0)) n) f))), some (.int (nI (t + 1))), none]) (fun i v hi => by match i, hi with | 0, h => exact h | 1, h => exact h | 2, h => exact h | 3, h => exact h | 4, h => exact h | 5, h => exact h | 6, h => exact h | 7, h => cases h) ?_
            exact ih (t + 1) t X2 (by omega) (by omega) (by omega) (g1.tr g2) (fb_yes hs (Or.inr (by rw [hb]; omega))) (by omega)

set_option maxHeartbeats 4000000 in
set_option maxRecDepth 100000 in
theorem r_field {S : St} {N : Nat → Nat → Int64} {X : St} {Y : Nat → Int64} {Q : Option Value → AH → Prop} {x z : Int32} (hw : WF (X 0)) (hl : WL (X 0)) (hB : ¬ (rg x 0 3 ∧ rg z 1 24) → ∀ X', Xf X X' 0 → Q (some (.int (-1000000001))) (hp S N X' Y)) (hS : ∀ n, 1 ≤ n → n ≤ 24 → z = nI n → rg x 0 3 → ¬ ((2 ≤ sea (X 0) ∧ sea (X 0) ≤ 5) ∧ ¬ 9999 < X 0 13 2 + n) → ∀ X', Xf X X' 4 → Q (some (.int (-1000000005))) (hp S N X' Y)) (hZ : ∀ f n, f ≤ 3 → 1 ≤ n → n ≤ 24 → x = nI f → z = nI n → (2 ≤ sea (X 0) ∧ sea (X 0) ≤ 5) → ¬ 9999 < X 0 13 2 + n → 6 < pop 12 (sets (X 0) f) → ∀ X', Xf X X' 6 → Q (some (.int (-1000000007))) (hp S N X' Y)) (hO : ∀ f n, f ≤ 3 → 1 ≤ n → n ≤ 24 → x = nI f → z = nI n → (2 ≤ sea (X 0) ∧ sea (X 0) ≤ 5) → ¬ 9999 < X 0 13 2 + n → pop 12 (sets (X 0) f) ≤ 6 → ∀ X', Xp X X' (X 0) → Q (some (.int (nI (fb (fun s => purse (monN (plantS (X 0) s (X 0 13 0)) n) f) (sets (X 0) f) ((sets (X 0) f) + 1))))) (hp S N X' Y)) : Cn 11 yX4_field cX4_field 8 (some .int) [.ref 69, .int x, .int z] (hp S N X Y) Q := by
  refine cn_of (own := RX4) (lo := [some (.ref 69), some (.int x), some (.int z), none, none, none, none, none]) 5 rfl (by decide +kernel) rfl (Nat.le_of_ble_eq_true rfl) ?_
  refine go_iloadn1 (q := 1) dX4_field_0 rfl ?_
  refine go_is1_ (q := 4) dX4_field_1 lk_X4_43 (by decide) (by decide) (Nat.le_of_ble_eq_true rfl) rfl (r_isOwner ?_)
  refine go_ifeqB (tgt := 19) (q := 7) dX4_field_4 (by decide) rfl (fun h1 => ?_) (fun h1 => ?_)
  · skip
    refine go_aloadn0 (q := 20) dX4_field_19 rfl ?_
    refine go_ldc (q := 22) dX4_field_20 ko_X4_42 rfl ?_
    refine go_ix1 (q := 25) dX4_field_22 lk_X4_57 (by decide) (by decide) (Nat.le_of_ble_eq_true rfl) rfl (r_finds (p := 0) (by decide) (by decide) ?_)
    exact go_iret dX4_field_25 rfl (hB (fun w => h1 w.1) _ (Xf.rf 0))
  · skip
    refine go_iloadn2 (q := 8) dX4_field_7 rfl ?_
    refine go_i2l (q := 9) dX4_field_8 rfl ?_
    refine go_lconst (q := 10) dX4_field_9 rfl ?_
    refine go_ldc2 (q := 13) dX4_field_10 ko_X4_167 rfl ?_
    refine go_is3_ (q := 16) dX4_field_13 lk_X4_49 (by decide) (by decide) (Nat.le_of_ble_eq_true rfl) rfl (r_isIn (l := 1) (m := 24) (by decide) (by decide) ?_)
    refine go_ifneB (tgt := 26) (q := 19) dX4_field_16 (by decide) rfl (fun h2 => ?_) (fun h2 => ?_)
    · skip
      have h10 := h1
      obtain ⟨f, hf, rfl, -, -⟩ := rg_nat (n := 3) h1 (by omega) (by omega)
      obtain ⟨n, hn, rfl, hn1, -⟩ := rg_nat (n := 24) h2 (by omega) (by omega)
      refine go_aloadn0 (q := 27) dX4_field_26 rfl ?_
      refine go_ix0 (q := 30) dX4_field_27 lk_X4_115 (by decide) (by decide) (Nat.le_of_ble_eq_true rfl) rfl (r_isSpring hw ?_)
      refine go_ifeqB (tgt := 41) (q := 33) dX4_field_30 (by decide) rfl (fun h3 => ?_) (fun h3 => ?_)
      · skip
        refine go_aloadn0 (q := 42) dX4_field_41 rfl ?_
        refine go_ldc (q := 44) dX4_field_42 ko_X4_119 rfl ?_
        refine go_ix1 (q := 47) dX4_field_44 lk_X4_57 (by decide) (by decide) (Nat.le_of_ble_eq_true rfl) rfl (r_finds (p := 4) (by decide) (by decide) ?_)
        exact go_iret dX4_field_47 rfl (hS n (by omega) hn rfl h10 (fun w => h3 w.1) _ (Xf.rf 4))
      · skip
        refine go_aloadn0 (q := 34) dX4_field_33 rfl ?_
        refine go_iloadn2 (q := 35) dX4_field_34 rfl ?_
        refine go_ix1 (q := 38) dX4_field_35 lk_X4_139 (by decide) (by decide) (Nat.le_of_ble_eq_true rfl) rfl (r_isFar hw (by omega) ?_)
        refine go_ifeqB (tgt := 48) (q := 41) dX4_field_38 (by decide) rfl (fun h4 => ?_) (fun h4 => ?_)
        · skip
          have hm : X 0 13 2 + n ≤ 10000 := by omega
          have hA : sets (X 0) f < 2 ^ X 0 13 0 := setS_lt _ _
          have h12 : 2 ^ X 0 13 0 ≤ 2 ^ 12 := Nat.pow_le_pow_right (by decide) hw.co
          have hA2 : sets (X 0) f < 4096 := Nat.lt_of_lt_of_le hA h12
          have vb : ∀ s, (purse (monN (plantS (X 0) s (X 0 13 0)) n) f) ≤ 12 * 980 := fun s => purse_le (wf_monN (wf_plantS hw s (X 0 13 0)) (n := n) (by rw [plantS_13]; exact hm)).1 f
          have pl := pop_le 12 (sets (X 0) f)
          refine go_aloadn0 (q := 49) dX4_field_48 rfl ?_
          refine go_iloadn1 (q := 50) dX4_field_49 rfl ?_
          refine go_ix1 (q := 53) dX4_field_50 lk_X4_128 (by decide) (by decide) (Nat.le_of_ble_eq_true rfl) rfl (r_soundOf hw (by omega) ?_)
          refine go_istoren3 (q := 54) dX4_field_53 rfl (by decide) rfl ?_
          refine go_iloadn3 (q := 55) dX4_field_54 rfl ?_
          refine go_is1_ (q := 58) dX4_field_55 lk_X4_177 (by decide) (by decide) (Nat.le_of_ble_eq_true rfl) rfl (r_manyIn hA2 ?_)
          refine go_bipushN (v := 6) (q := 60) dX4_field_58 (by decide) rfl ?_
          refine go_icmp_leN (tgt := 70) (q := 63) dX4_field_60 (by decide) rfl (by omega) (by omega) (fun h5 => ?_) (fun h5 => ?_)
          · skip
            refine go_aloadn0 (q := 71) dX4_field_70 rfl ?_
            refine go_ix0 (q := 74) dX4_field_71 lk_X4_160 (by decide) (by decide) (Nat.le_of_ble_eq_true rfl) rfl (r_laysBy ?_)
            refine go_iconstN (n := 0) (q := 75) dX4_field_74 rfl ?_
            refine go_istore4 (q := 77) dX4_field_75 rfl (by decide) rfl ?_
            refine go_iconstV (v := -1) (q := 78) dX4_field_77 (by decide) rfl ?_
            refine go_istore5 (q := 80) dX4_field_78 rfl (by decide) rfl ?_
            refine go_iconstN (n := 0) (q := 81) dX4_field_80 rfl ?_
            refine go_istore6 (q := 83) dX4_field_81 rfl (by decide) rfl ?_
            refine go_iload6 (q := 85) dX4_field_83 rfl ?_
            refine go_iloadn3 (q := 86) dX4_field_85 rfl ?_
            refine go_icmp_gtN (tgt := 150) (q := 89) dX4_field_86 (by decide) rfl (by decide) (by omega) (fun h6 => ?_) (fun h6 => ?_)
            · skip
              exact absurd h6 (by omega)
            · skip
              refine go_iload6 (q := 91) dX4_field_89 rfl ?_
              refine go_iloadn3 (q := 92) dX4_field_91 rfl ?_
              refine go_iconstV (v := -1) (q := 93) dX4_field_92 (by decide) rfl ?_
              refine go_ixor (q := 94) dX4_field_93 rfl ?_
              refine go_iand (q := 95) dX4_field_94 rfl ?_
              refine go_if_ne (tgt := 109) (q := 98) dX4_field_95 (by decide) rfl (fun h7 => ?_) (fun h7 => ?_)
              · skip
                exact absurd ((m_sub (by decide) hA2).mpr (sub_0 _)) h7
              · skip
                refine go_aloadn0 (q := 99) dX4_field_98 rfl ?_
                refine go_iloadn1 (q := 100) dX4_field_99 rfl ?_
                refine go_iload6 (q := 102) dX4_field_100 rfl ?_
                refine go_iloadn2 (q := 103) dX4_field_102 rfl ?_
                refine go_ix3 (q := 106) dX4_field_103 lk_X4_181 (by decide) (by decide) (Nat.le_of_ble_eq_true rfl) rfl (r_purseBy (X := uk X 2 (X 0)) hw hl hf (by decide) (by omega) hm (fun X2 g2 => ?_))
                have w0 := vb 0
                refine go_goto (tgt := 110) dX4_field_106 (by decide) ?_
                refine go_istore7 (q := 112) dX4_field_110 rfl (by decide) rfl ?_
                refine go_iload7 (q := 114) dX4_field_112 rfl ?_
                refine go_iload5 (q := 116) dX4_field_114 rfl ?_
                refine go_icmp_le (tgt := 124) (q := 119) dX4_field_116 (by decide) rfl (fun h8 => ?_) (fun h8 => ?_)
                · skip
                  exact absurd h8 (nI_gm1 (Nat.lt_of_le_of_lt w0 (by decide)))
                · skip
                  refine go_iload6 (q := 121) dX4_field_119 rfl ?_
                  refine go_goto (tgt := 126) dX4_field_121 (by decide) ?_
                  refine go_istore4 (q := 128) dX4_field_126 rfl (by decide) rfl ?_
                  refine go_iload7 (q := 130) dX4_field_128 rfl ?_
                  refine go_iload5 (q := 132) dX4_field_130 rfl ?_
                  refine go_icmp_le (tgt := 140) (q := 135) dX4_field_132 (by decide) rfl (fun h9 => ?_) (fun h9 => ?_)
                  · skip
                    exact absurd h9 (nI_gm1 (Nat.lt_of_le_of_lt w0 (by decide)))
                  · skip
                    refine go_iload7 (q := 137) dX4_field_135 rfl ?_
                    refine go_goto (tgt := 142) dX4_field_137 (by decide) ?_
                    refine go_istore5 (q := 144) dX4_field_142 rfl (by decide) rfl ?_
                    refine go_iincN6 (n := 1) (q := 147) dX4_field_144 rfl (by decide) rfl ?_
                    refine go_goto (tgt := 83) dX4_field_147 (by decide) ?_
                    refine go_forget (lo' := [some (.ref 69), some (.int (nI f)), some (.int (nI n)), some (.int (nI (sets (X 0) f))), some (.int (nI 0)), some (.int (nI (purse (monN (plantS (X 0) 0 (X 0 13 0)) n) f))), some (.int (nI 1)), none]) (fun i v hi => by match i, hi with | 0, h => exact h | 1, h => exact h | 2, h => exact h | 3, h => exact h | 4, h => exact h | 5, h => exact h | 6, h => exact h | 7, h => cases h) ?_
                    exact r_field_83 hw hl hf hn hm (hO f n hf (by omega) hn rfl rfl h3 h4 h5) ((sets (X 0) f) + 1) 1 0 X2 (by omega) (by omega) (by omega) g2 fb_1 (by omega)
          · skip
            refine go_aloadn0 (q := 64) dX4_field_63 rfl ?_
            refine go_ldc (q := 66) dX4_field_64 ko_X4_180 rfl ?_
            refine go_ix1 (q := 69) dX4_field_66 lk_X4_57 (by decide) (by decide) (Nat.le_of_ble_eq_true rfl) rfl (r_finds (p := 6) (by decide) (by decide) ?_)
            exact go_iret dX4_field_69 rfl (hZ f n hf (by omega) hn rfl rfl h3 h4 (by omega) _ (Xf.rf 6))
        · skip
          refine go_aloadn0 (q := 42) dX4_field_41 rfl ?_
          refine go_ldc (q := 44) dX4_field_42 ko_X4_119 rfl ?_
          refine go_ix1 (q := 47) dX4_field_44 lk_X4_57 (by decide) (by decide) (Nat.le_of_ble_eq_true rfl) rfl (r_finds (p := 4) (by decide) (by decide) ?_)
          exact go_iret dX4_field_47 rfl (hS n (by omega) hn rfl h10 (fun w => w.2 h4) _ (Xf.rf 4))
    · skip
      refine go_aloadn0 (q := 20) dX4_field_19 rfl ?_
      refine go_ldc (q := 22) dX4_field_20 ko_X4_42 rfl ?_
      refine go_ix1 (q := 25) dX4_field_22 lk_X4_57 (by decide) (by decide) (Nat.le_of_ble_eq_true rfl) rfl (r_finds (p := 0) (by decide) (by decide) ?_)
      exact go_iret dX4_field_25 rfl (hB (fun w => h2 w.2) _ (Xf.rf 0))
