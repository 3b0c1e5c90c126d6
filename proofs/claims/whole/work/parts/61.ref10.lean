theorem wl_u2 {M : Mk} (h : WL M) {j i v : Nat} (h8 : j ≠ 8) (h13 : j ≠ 13) : WL (u2 M j i v) := by
  intro k hk
  unfold u2 at hk ⊢
  rw [if_neg (by omega)] at hk ⊢
  exact h k hk

set_option maxHeartbeats 4000000 in
set_option maxRecDepth 100000 in
theorem r_kind_54 {S : St} {N : Nat → Nat → Int64} {X : St} {Y : Nat → Int64} {Q : Option Value → AH → Prop} {c n : Nat} (hw : WF (X 0)) (hl : WL (X 0)) (hc : c < 12) (hn : n ≤ 120) (hm : X 0 13 2 + n ≤ 10000) (hO : ∀ X', Xp X X' (X 0) → Q (some (.int (nI (rch (fun kd => wrt (monN (u2 (X 0) 0 c kd) n) c) 5)))) (hp S N X' Y)) : ∀ (fu : Nat) (k b : Nat) (X1 : St), 6 - k < fu → (1 ≤ k) → (k ≤ 6) → (Xc (uk X 2 (X 0)) X1 (X 0)) → (rch (fun kd => wrt (monN (u2 (X 0) 0 c kd) n) c) (k - 1) = b) → (b < k) → Go 11 RX4 cX4_kind 7 (some .int) 54 [some (.ref 69), some (.int (nI c)), some (.int (nI n)), some (.int (nI b)), some (.int (nI (wrt (monN (u2 (X 0) 0 c b) n) c))), some (.int (nI k)), none] [] (hp S N X1 Y) Q := by
  intro fu
  induction fu with
  | zero => intro k b X1 hfu; exact absurd hfu (Nat.not_lt_zero _)
  | succ fu ih =>
    intro k b X1 hfu hk1 hk g1 hb hb2
    refine go_iload5 (q := 56) dX4_kind_54 rfl ?_
    refine go_iconstN (n := 5) (q := 57) dX4_kind_56 rfl ?_
    refine go_icmp_gtN (tgt := 112) (q := 60) dX4_kind_57 (by decide) rfl (by omega) (by omega) (fun h1 => ?_) (fun h1 => ?_)
    · skip
      refine go_iloadn3 (q := 113) dX4_kind_112 rfl ?_
      exact go_iretN dX4_kind_113 rfl (by rw [← hb, show k - 1 = 5 by omega]) (hO _ ((Xp.by2 (X 0)).tr g1.p))
    · skip
      have e1 : X1 0 = X 0 := g1.1
      have eu : u3 X1 0 0 c k 0 = u2 (X 0) 0 c k := by rw [u3_k, e1]
      have hwu : WF (u2 (X 0) 0 c k) := hw.upd (by omega)
      have hwu1 : WF (u3 X1 0 0 c k 0) := by rw [eu]; exact hwu
      have hlu : WL (u3 X1 0 0 c k 0) := by rw [eu]; exact wl_u2 hl (by decide) (by decide)
      have hmu : u3 X1 0 0 c k 0 13 2 + n ≤ 10000 := by rw [eu]; exact hm
      have v1 := wrt_le (wf_monN hwu (n := n) hm).1 c
      have hwb := (wf_monN (hw.upd (j := 0) (i := c) (v := b) (by omega)) (n := n) hm).1
      have v2 := wrt_le hwb c
      refine go_aloadn0 (q := 61) dX4_kind_60 rfl ?_
      refine go_iloadn1 (q := 62) dX4_kind_61 rfl ?_
      refine go_iconstN (n := 0) (q := 63) dX4_kind_62 rfl ?_
      refine go_iload5 (q := 65) dX4_kind_63 rfl ?_
      refine go_ix3 (q := 68) dX4_kind_65 lk_X4_65 (by decide) (by decide) (Nat.le_of_ble_eq_true rfl) rfl (r_puts hc (by decide) ?_)
      refine go_aloadn0 (q := 69) dX4_kind_68 rfl ?_
      refine go_iloadn1 (q := 70) dX4_kind_69 rfl ?_
      refine go_iloadn2 (q := 71) dX4_kind_70 rfl ?_
      refine go_ix2 (q := 74) dX4_kind_71 lk_X4_169 (by decide) (by decide) (Nat.le_of_ble_eq_true rfl) rfl (r_worthOn (X := u3 X1 0 0 c k) hwu1 hlu hc (by omega) hmu (fun X2 g2 => ?_))
      rw [eu]
      have g3 := ((g1.u 0 c k).tr g2).to (show u3 X1 0 0 c k 2 = X 0 from by rw [u3_oth _ (by decide)]; exact g1.2.2.1)
      refine go_istore6 (q := 76) dX4_kind_74 rfl (by decide) rfl ?_
      refine go_iload6 (q := 78) dX4_kind_76 rfl ?_
      refine go_iload4 (q := 80) dX4_kind_78 rfl ?_
      refine go_icmp_leN (tgt := 88) (q := 83) dX4_kind_80 (by decide) rfl (by omega) (by omega) (fun h2 => ?_) (fun h2 => ?_)
      · skip
        refine go_iloadn3 (q := 89) dX4_kind_88 rfl ?_
        refine go_istoren3 (q := 90) dX4_kind_89 rfl (by decide) rfl ?_
        refine go_iload6 (q := 92) dX4_kind_90 rfl ?_
        refine go_iload4 (q := 94) dX4_kind_92 rfl ?_
        refine go_icmp_leN (tgt := 102) (q := 97) dX4_kind_94 (by decide) rfl (by omega) (by omega) (fun h3 => ?_) (fun h3 => ?_)
        · skip
          refine go_iload4 (q := 104) dX4_kind_102 rfl ?_
          refine go_istore4 (q := 106) dX4_kind_104 rfl (by decide) rfl ?_
          refine go_iincN5 (n := 1) (q := 109) dX4_kind_106 rfl (by decide) rfl ?_
          refine go_goto (tgt := 54) dX4_kind_109 (by decide) ?_
          refine go_forget (lo' := [some (.ref 69), some (.int (nI c)), some (.int (nI n)), some (.int (nI b)), some (.int (nI (wrt (monN (u2 (X 0) 0 c b) n) c))), some (.int (nI (k + 1))), none]) (fun i v hi => by match i, hi with | 0, h => exact h | 1, h => exact h | 2, h => exact h | 3, h => exact h | 4, h => exact h | 5, h => exact h | 6, h => cases h) ?_
          exact ih (k + 1) b X2 (by omega) (by omega) (by omega) g3 (by rw [show k + 1 - 1 = (k - 1) + 1 by omega]; unfold rch; rw [hb, show k - 1 + 1 = k by omega, if_neg (by omega)]) (by omega)
        · skip
          exact absurd h2 h3
      · skip
        refine go_iload5 (q := 85) dX4_kind_83 rfl ?_
        refine go_goto (tgt := 89) dX4_kind_85 (by decide) ?_
        refine go_istoren3 (q := 90) dX4_kind_89 rfl (by decide) rfl ?_
        refine go_iload6 (q := 92) dX4_kind_90 rfl ?_
        refine go_iload4 (q := 94) dX4_kind_92 rfl ?_
        refine go_icmp_leN (tgt := 102) (q := 97) dX4_kind_94 (by decide) rfl (by omega) (by omega) (fun h3 => ?_) (fun h3 => ?_)
        · skip
          exact absurd h3 h2
        · skip
          refine go_iload6 (q := 99) dX4_kind_97 rfl ?_
          refine go_goto (tgt := 104) dX4_kind_99 (by decide) ?_
          refine go_istore4 (q := 106) dX4_kind_104 rfl (by decide) rfl ?_
          refine go_iincN5 (n := 1) (q := 109) dX4_kind_106 rfl (by decide) rfl ?_
          refine go_goto (tgt := 54) dX4_kind_109 (by decide) ?_
          refine go_forget (lo' := [some (.ref 69), some (.int (nI c)), some (.int (nI n)), some (.int (nI k)), some (.int (nI (wrt (monN (u2 (X 0) 0 c k) n) c))), some (.int (nI (k + 1))), none]) (fun i v hi => by match i, hi with | 0, h => exact h | 1, h => exact h | 2, h => exact h | 3, h => exact h | 4, h => exact h | 5, h => exact h | 6, h => cases h) ?_
          exact ih (k + 1) k X2 (by omega) (by omega) (by omega) g3 (by rw [show k + 1 - 1 = (k - 1) + 1 by omega]; unfold rch; rw [hb, show k - 1 + 1 = k by omega, if_pos (by omega)]) (by omega)

set_option maxHeartbeats 4000000 in
set_option maxRecDepth 100000 in
theorem r_kind {S : St} {N : Nat → Nat → Int64} {X : St} {Y : Nat → Int64} {Q : Option Value → AH → Prop} {x z : Int32} (hw : WF (X 0)) (hl : WL (X 0)) (hB : ¬ (ic (X 0) x ∧ rg z 1 120) → ∀ X', Xf X X' 0 → Q (some (.int (-1000000001))) (hp S N X' Y)) (hS : ∀ n, 1 ≤ n → n ≤ 120 → z = nI n → ic (X 0) x → 9999 < X 0 13 2 + n → ∀ X', Xf X X' 4 → Q (some (.int (-1000000005))) (hp S N X' Y)) (hO : ∀ c n, c < X 0 13 0 → 1 ≤ n → n ≤ 120 → x = nI c → z = nI n → ¬ 9999 < X 0 13 2 + n → ∀ X', Xp X X' (X 0) → Q (some (.int (nI (rch (fun kd => wrt (monN (u2 (X 0) 0 c kd) n) c) 5)))) (hp S N X' Y)) : Cn 11 yX4_kind cX4_kind 7 (some .int) [.ref 69, .int x, .int z] (hp S N X Y) Q := by
  refine cn_of (own := RX4) (lo := [some (.ref 69), some (.int x), some (.int z), none, none, none, none]) 4 rfl (by decide +kernel) rfl (Nat.le_of_ble_eq_true rfl) ?_
  refine go_aloadn0 (q := 1) dX4_kind_0 rfl ?_
  refine go_iloadn1 (q := 2) dX4_kind_1 rfl ?_
  refine go_ix1 (q := 5) dX4_kind_2 lk_X4_87 (by decide) (by decide) (Nat.le_of_ble_eq_true rfl) rfl (r_isCoin hw ?_)
  refine go_ifeqB (tgt := 20) (q := 8) dX4_kind_5 (by decide) rfl (fun h1 => ?_) (fun h1 => ?_)
  · skip
    refine go_aloadn0 (q := 21) dX4_kind_20 rfl ?_
    refine go_ldc (q := 23) dX4_kind_21 ko_X4_42 rfl ?_
    refine go_ix1 (q := 26) dX4_kind_23 lk_X4_57 (by decide) (by decide) (Nat.le_of_ble_eq_true rfl) rfl (r_finds (p := 0) (by decide) (by decide) ?_)
    exact go_iret dX4_kind_26 rfl (hB (fun w => h1 w.1) _ (Xf.rf 0))
  · skip
    refine go_iloadn2 (q := 9) dX4_kind_8 rfl ?_
    refine go_i2l (q := 10) dX4_kind_9 rfl ?_
    refine go_lconst (q := 11) dX4_kind_10 rfl ?_
    refine go_ldc2 (q := 14) dX4_kind_11 ko_X4_137 rfl ?_
    refine go_is3_ (q := 17) dX4_kind_14 lk_X4_49 (by decide) (by decide) (Nat.le_of_ble_eq_true rfl) rfl (r_isIn (l := 1) (m := 120) (by decide) (by decide) ?_)
    refine go_ifneB (tgt := 27) (q := 20) dX4_kind_17 (by decide) rfl (fun h2 => ?_) (fun h2 => ?_)
    · skip
      have h10 := h1
      obtain ⟨c, hc, hc12, rfl⟩ := ic_nat h1 hw
      obtain ⟨n, hn, rfl, hn1, -⟩ := rg_nat (n := 120) h2 (by omega) (by omega)
      refine go_aloadn0 (q := 28) dX4_kind_27 rfl ?_
      refine go_iloadn2 (q := 29) dX4_kind_28 rfl ?_
      refine go_ix1 (q := 32) dX4_kind_29 lk_X4_139 (by decide) (by decide) (Nat.le_of_ble_eq_true rfl) rfl (r_isFar hw (by omega) ?_)
      refine go_ifeqB (tgt := 42) (q := 35) dX4_kind_32 (by decide) rfl (fun h3 => ?_) (fun h3 => ?_)
      · skip
        refine go_aloadn0 (q := 43) dX4_kind_42 rfl ?_
        refine go_ix0 (q := 46) dX4_kind_43 lk_X4_160 (by decide) (by decide) (Nat.le_of_ble_eq_true rfl) rfl (r_laysBy ?_)
        have hc := hc12
        have hm : X 0 13 2 + n ≤ 10000 := by omega
        have g1 : Xc (uk X 2 (X 0)) (uk X 2 (X 0)) (X 0) := Xc.rf
        generalize hX1 : uk X 2 (X 0) = X1 at g1 ⊢
        have e2 : X1 2 = X 0 := by rw [← hX1]; exact uk_s _ _ _
        refine go_iconstN (n := 0) (q := 47) dX4_kind_46 rfl ?_
        refine go_istoren3 (q := 48) dX4_kind_47 rfl (by decide) rfl ?_
        refine go_iconstV (v := -1) (q := 49) dX4_kind_48 (by decide) rfl ?_
        refine go_istore4 (q := 51) dX4_kind_49 rfl (by decide) rfl ?_
        refine go_iconstN (n := 0) (q := 52) dX4_kind_51 rfl ?_
        refine go_istore5 (q := 54) dX4_kind_52 rfl (by decide) rfl ?_
        refine go_iload5 (q := 56) dX4_kind_54 rfl ?_
        refine go_iconstN (n := 5) (q := 57) dX4_kind_56 rfl ?_
        refine go_icmp_gtN (tgt := 112) (q := 60) dX4_kind_57 (by decide) rfl (by omega) (by omega) (fun h4 => ?_) (fun h4 => ?_)
        · skip
          exact absurd h4 (by decide)
        · skip
          have e1 : X1 0 = X 0 := g1.1
          have eu : u3 X1 0 0 c 0 0 = u2 (X 0) 0 c 0 := by rw [u3_k, e1]
          have hwu : WF (u2 (X 0) 0 c 0) := hw.upd (by omega)
          have hwu1 : WF (u3 X1 0 0 c 0 0) := by rw [eu]; exact hwu
          have hlu : WL (u3 X1 0 0 c 0 0) := by rw [eu]; exact wl_u2 hl (by decide) (by decide)
          have hmu : u3 X1 0 0 c 0 0 13 2 + n ≤ 10000 := by rw [eu]; exact hm
          have v1 := wrt_le (wf_monN hwu (n := n) hm).1 c
          refine go_aloadn0 (q := 61) dX4_kind_60 rfl ?_
          refine go_iloadn1 (q := 62) dX4_kind_61 rfl ?_
          refine go_iconstN (n := 0) (q := 63) dX4_kind_62 rfl ?_
          refine go_iload5 (q := 65) dX4_kind_63 rfl ?_
          refine go_ix3 (q := 68) dX4_kind_65 lk_X4_65 (by decide) (by decide) (Nat.le_of_ble_eq_true rfl) rfl (r_puts hc (by decide) ?_)
          refine go_aloadn0 (q := 69) dX4_kind_68 rfl ?_
          refine go_iloadn1 (q := 70) dX4_kind_69 rfl ?_
          refine go_iloadn2 (q := 71) dX4_kind_70 rfl ?_
          refine go_ix2 (q := 74) dX4_kind_71 lk_X4_169 (by decide) (by decide) (Nat.le_of_ble_eq_true rfl) rfl (r_worthOn (X := u3 X1 0 0 c 0) hwu1 hlu hc (by omega) hmu (fun X2 g2 => ?_))
          rw [eu]
          have g3 := ((g1.u 0 c 0).tr g2).to (show u3 X1 0 0 c 0 2 = X 0 from by rw [u3_oth _ (by decide)]; exact e2)
          refine go_istore6 (q := 76) dX4_kind_74 rfl (by decide) rfl ?_
          refine go_iload6 (q := 78) dX4_kind_76 rfl ?_
          refine go_iload4 (q := 80) dX4_kind_78 rfl ?_
          refine go_icmp_le (tgt := 88) (q := 83) dX4_kind_80 (by decide) rfl (fun h5 => ?_) (fun h5 => ?_)
          · skip
            exact absurd h5 (nI_gm1 (by omega))
          · skip
            refine go_iload5 (q := 85) dX4_kind_83 rfl ?_
            refine go_goto (tgt := 89) dX4_kind_85 (by decide) ?_
            refine go_istoren3 (q := 90) dX4_kind_89 rfl (by decide) rfl ?_
            refine go_iload6 (q := 92) dX4_kind_90 rfl ?_
            refine go_iload4 (q := 94) dX4_kind_92 rfl ?_
            refine go_icmp_le (tgt := 102) (q := 97) dX4_kind_94 (by decide) rfl (fun h6 => ?_) (fun h6 => ?_)
            · skip
              exact absurd h6 (nI_gm1 (by omega))
            · skip
              refine go_iload6 (q := 99) dX4_kind_97 rfl ?_
              refine go_goto (tgt := 104) dX4_kind_99 (by decide) ?_
              refine go_istore4 (q := 106) dX4_kind_104 rfl (by decide) rfl ?_
              refine go_iincN5 (n := 1) (q := 109) dX4_kind_106 rfl (by decide) rfl ?_
              refine go_goto (tgt := 54) dX4_kind_109 (by decide) ?_
              refine go_forget (lo' := [some (.ref 69), some (.int (nI c)), some (.int (nI n)), some (.int (nI 0)), some (.int (nI (wrt (monN (u2 (X 0) 0 c 0) n) c))), some (.int (nI 1)), none]) (fun i v hi => by match i, hi with | 0, h => exact h | 1, h => exact h | 2, h => exact h | 3, h => exact h | 4, h => exact h | 5, h => exact h | 6, h => cases h) ?_
              subst hX1
              exact r_kind_54 hw hl hc hn hm (hO c n (by omega) (by omega) hn rfl rfl h3) 7 1 0 X2 (by omega) (by omega) (by omega) g3 rfl (by omega)
      · skip
        refine go_aloadn0 (q := 36) dX4_kind_35 rfl ?_
        refine go_ldc (q := 38) dX4_kind_36 ko_X4_119 rfl ?_
        refine go_ix1 (q := 41) dX4_kind_38 lk_X4_57 (by decide) (by decide) (Nat.le_of_ble_eq_true rfl) rfl (r_finds (p := 4) (by decide) (by decide) ?_)
        exact go_iret dX4_kind_41 rfl (hS n (by omega) hn rfl h10 h3 _ (Xf.rf 4))
    · skip
      refine go_aloadn0 (q := 21) dX4_kind_20 rfl ?_
      refine go_ldc (q := 23) dX4_kind_21 ko_X4_42 rfl ?_
      refine go_ix1 (q := 26) dX4_kind_23 lk_X4_57 (by decide) (by decide) (Nat.le_of_ble_eq_true rfl) rfl (r_finds (p := 0) (by decide) (by decide) ?_)
      exact go_iret dX4_kind_26 rfl (hB (fun w => h2 w.2) _ (Xf.rf 0))
