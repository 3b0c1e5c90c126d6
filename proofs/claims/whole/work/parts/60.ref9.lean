theorem nI_gm1 {v : Nat} (h : v < 2 ^ 31) : ¬ nI v ≤ (-1 : Int32) := by
  rw [Int32.le_iff_toInt_le, nI_toInt h]
  have : (-1 : Int32).toInt = -1 := by decide
  omega

set_option maxHeartbeats 4000000 in
set_option maxRecDepth 100000 in
theorem r_when_42 {S : St} {N : Nat → Nat → Int64} {X : St} {Y : Nat → Int64} {Q : Option Value → AH → Prop} {c : Nat} (hw : WF (X 0)) (hl : WL (X 0)) (hc : c < 12) (hm : X 0 13 2 + 25 ≤ 10000) (hO : ∀ X', Xp X X' (X 0) → Q (some (.int (nI (rch (fun m => wrt (monN (X 0) m) c) 24)))) (hp S N X' Y)) : ∀ (fu : Nat) (k b : Nat) (X1 : St), 25 - k < fu → (1 ≤ k) → (k ≤ 25) → (Xc (uk X 2 (X 0)) X1 (monN (X 0) k)) → (rch (fun m => wrt (monN (X 0) m) c) (k - 1) = b) → (b < k) → Go 10 RX4 cX4_when 6 (some .int) 42 [some (.ref 69), some (.int (nI c)), some (.int (nI b)), some (.int (nI (wrt (monN (X 0) b) c))), some (.int (nI k)), none] [] (hp S N X1 Y) Q := by
  intro fu
  induction fu with
  | zero => intro k b X1 hfu; exact absurd hfu (Nat.not_lt_zero _)
  | succ fu ih =>
    intro k b X1 hfu hk1 hk g1 hb hb2
    have e1 : X1 0 = monN (X 0) k := g1.1
    have hwf := wf_monN hw (n := k) (by omega)
    have hw1 : WF (X1 0) := by rw [e1]; exact hwf.1
    have hl1 : WL (X1 0) := by rw [e1]; exact wl_monN hl k
    have hwb := (wf_monN hw (n := b) (by omega)).1
    have v1 := wrt_le hwb c
    have v2 := wrt_le hwf.1 c
    refine go_iload4 (q := 44) dX4_when_42 rfl ?_
    refine go_bipushN (v := 24) (q := 46) dX4_when_44 (by decide) rfl ?_
    refine go_icmp_gtN (tgt := 92) (q := 49) dX4_when_46 (by decide) rfl (by omega) (by omega) (fun h1 => ?_) (fun h1 => ?_)
    · skip
      refine go_aloadn0 (q := 93) dX4_when_92 rfl ?_
      refine go_ix0 (q := 96) dX4_when_93 lk_X4_163 (by decide) (by decide) (Nat.le_of_ble_eq_true rfl) rfl (r_laysBack ?_)
      refine go_iloadn2 (q := 97) dX4_when_96 rfl ?_
      exact go_iretN dX4_when_97 rfl (by rw [← hb, show k - 1 = 24 by omega]) (hO _ g1.lb)
    · skip
      refine go_aloadn0 (q := 50) dX4_when_49 rfl ?_
      refine go_iloadn1 (q := 51) dX4_when_50 rfl ?_
      refine go_ix1 (q := 54) dX4_when_51 lk_X4_92 (by decide) (by decide) (Nat.le_of_ble_eq_true rfl) rfl (r_worth hw1 hc ?_)
      rw [e1]
      refine go_istore5 (q := 56) dX4_when_54 rfl (by decide) rfl ?_
      refine go_iload5 (q := 58) dX4_when_56 rfl ?_
      refine go_iloadn3 (q := 59) dX4_when_58 rfl ?_
      refine go_icmp_leN (tgt := 67) (q := 62) dX4_when_59 (by decide) rfl (by omega) (by omega) (fun h2 => ?_) (fun h2 => ?_)
      · skip
        refine go_iloadn2 (q := 68) dX4_when_67 rfl ?_
        refine go_istoren2 (q := 69) dX4_when_68 rfl (by decide) rfl ?_
        refine go_iload5 (q := 71) dX4_when_69 rfl ?_
        refine go_iloadn3 (q := 72) dX4_when_71 rfl ?_
        refine go_icmp_leN (tgt := 80) (q := 75) dX4_when_72 (by decide) rfl (by omega) (by omega) (fun h3 => ?_) (fun h3 => ?_)
        · skip
          refine go_iloadn3 (q := 81) dX4_when_80 rfl ?_
          refine go_istoren3 (q := 82) dX4_when_81 rfl (by decide) rfl ?_
          refine go_aloadn0 (q := 83) dX4_when_82 rfl ?_
          refine go_ix0 (q := 86) dX4_when_83 lk_X4_146 (by decide) (by decide) (Nat.le_of_ble_eq_true rfl) rfl (r_goesOn hw1 hl1 (by rw [e1, hwf.2]; omega) (fun X2 g2 => ?_))
          rw [e1] at g2
          refine go_iincN4 (n := 1) (q := 89) dX4_when_86 rfl (by decide) rfl ?_
          refine go_goto (tgt := 42) dX4_when_89 (by decide) ?_
          refine go_forget (lo' := [some (.ref 69), some (.int (nI c)), some (.int (nI b)), some (.int (nI (wrt (monN (X 0) b) c))), some (.int (nI (k + 1))), none]) (fun i v hi => by match i, hi with | 0, h => exact h | 1, h => exact h | 2, h => exact h | 3, h => exact h | 4, h => exact h | 5, h => cases h) ?_
          exact ih (k + 1) b X2 (by omega) (by omega) (by omega) (g1.tr g2) (by rw [show k + 1 - 1 = (k - 1) + 1 by omega]; unfold rch; rw [hb, show k - 1 + 1 = k by omega, if_neg (by omega)]) (by omega)
        · skip
          exact absurd h2 h3
      · skip
        refine go_iload4 (q := 64) dX4_when_62 rfl ?_
        refine go_goto (tgt := 68) dX4_when_64 (by decide) ?_
        refine go_istoren2 (q := 69) dX4_when_68 rfl (by decide) rfl ?_
        refine go_iload5 (q := 71) dX4_when_69 rfl ?_
        refine go_iloadn3 (q := 72) dX4_when_71 rfl ?_
        refine go_icmp_leN (tgt := 80) (q := 75) dX4_when_72 (by decide) rfl (by omega) (by omega) (fun h3 => ?_) (fun h3 => ?_)
        · skip
          exact absurd h3 h2
        · skip
          refine go_iload5 (q := 77) dX4_when_75 rfl ?_
          refine go_goto (tgt := 81) dX4_when_77 (by decide) ?_
          refine go_istoren3 (q := 82) dX4_when_81 rfl (by decide) rfl ?_
          refine go_aloadn0 (q := 83) dX4_when_82 rfl ?_
          refine go_ix0 (q := 86) dX4_when_83 lk_X4_146 (by decide) (by decide) (Nat.le_of_ble_eq_true rfl) rfl (r_goesOn hw1 hl1 (by rw [e1, hwf.2]; omega) (fun X2 g2 => ?_))
          rw [e1] at g2
          refine go_iincN4 (n := 1) (q := 89) dX4_when_86 rfl (by decide) rfl ?_
          refine go_goto (tgt := 42) dX4_when_89 (by decide) ?_
          refine go_forget (lo' := [some (.ref 69), some (.int (nI c)), some (.int (nI k)), some (.int (nI (wrt (monN (X 0) k) c))), some (.int (nI (k + 1))), none]) (fun i v hi => by match i, hi with | 0, h => exact h | 1, h => exact h | 2, h => exact h | 3, h => exact h | 4, h => exact h | 5, h => cases h) ?_
          exact ih (k + 1) k X2 (by omega) (by omega) (by omega) (g1.tr g2) (by rw [show k + 1 - 1 = (k - 1) + 1 by omega]; unfold rch; rw [hb, show k - 1 + 1 = k by omega, if_pos (by omega)]) (by omega)

set_option maxHeartbeats 4000000 in
set_option maxRecDepth 100000 in
theorem r_when {S : St} {N : Nat → Nat → Int64} {X : St} {Y : Nat → Int64} {Q : Option Value → AH → Prop} {x : Int32} (hw : WF (X 0)) (hl : WL (X 0)) (hB : ¬ ic (X 0) x → ∀ X', Xf X X' 0 → Q (some (.int (-1000000001))) (hp S N X' Y)) (hS : ∀ c, c < X 0 13 0 → x = nI c → 9999 < X 0 13 2 + 24 → ∀ X', Xf X X' 4 → Q (some (.int (-1000000005))) (hp S N X' Y)) (hO : ∀ c, c < X 0 13 0 → x = nI c → ¬ 9999 < X 0 13 2 + 24 → ∀ X', Xp X X' (X 0) → Q (some (.int (nI (rch (fun n => wrt (monN (X 0) n) c) 24)))) (hp S N X' Y)) : Cn 10 yX4_when cX4_when 6 (some .int) [.ref 69, .int x] (hp S N X Y) Q := by
  refine cn_of (own := RX4) (lo := [some (.ref 69), some (.int x), none, none, none, none]) 4 rfl (by decide +kernel) rfl (Nat.le_of_ble_eq_true rfl) ?_
  refine go_aloadn0 (q := 1) dX4_when_0 rfl ?_
  refine go_iloadn1 (q := 2) dX4_when_1 rfl ?_
  refine go_ix1 (q := 5) dX4_when_2 lk_X4_87 (by decide) (by decide) (Nat.le_of_ble_eq_true rfl) rfl (r_isCoin hw ?_)
  refine go_ifneB (tgt := 15) (q := 8) dX4_when_5 (by decide) rfl (fun h1 => ?_) (fun h1 => ?_)
  · skip
    obtain ⟨c, hc, hc12, rfl⟩ := ic_nat h1 hw
    refine go_aloadn0 (q := 16) dX4_when_15 rfl ?_
    refine go_bipushN (v := 24) (q := 18) dX4_when_16 (by decide) rfl ?_
    refine go_ix1 (q := 21) dX4_when_18 lk_X4_139 (by decide) (by decide) (Nat.le_of_ble_eq_true rfl) rfl (r_isFar hw (by omega) ?_)
    refine go_ifeqB (tgt := 31) (q := 24) dX4_when_21 (by decide) rfl (fun h3 => ?_) (fun h3 => ?_)
    · skip
      refine go_aloadn0 (q := 32) dX4_when_31 rfl ?_
      refine go_ix0 (q := 35) dX4_when_32 lk_X4_160 (by decide) (by decide) (Nat.le_of_ble_eq_true rfl) rfl (r_laysBy ?_)
      refine go_iconstN (n := 0) (q := 36) dX4_when_35 rfl ?_
      refine go_istoren2 (q := 37) dX4_when_36 rfl (by decide) rfl ?_
      refine go_iconstV (v := -1) (q := 38) dX4_when_37 (by decide) rfl ?_
      refine go_istoren3 (q := 39) dX4_when_38 rfl (by decide) rfl ?_
      refine go_iconstN (n := 0) (q := 40) dX4_when_39 rfl ?_
      refine go_istore4 (q := 42) dX4_when_40 rfl (by decide) rfl ?_
      refine go_iload4 (q := 44) dX4_when_42 rfl ?_
      refine go_bipushN (v := 24) (q := 46) dX4_when_44 (by decide) rfl ?_
      refine go_icmp_gtN (tgt := 92) (q := 49) dX4_when_46 (by decide) rfl (by omega) (by omega) (fun h4 => ?_) (fun h4 => ?_)
      · skip
        exact absurd h4 (by decide)
      · skip
        refine go_aloadn0 (q := 50) dX4_when_49 rfl ?_
        refine go_iloadn1 (q := 51) dX4_when_50 rfl ?_
        refine go_ix1 (q := 54) dX4_when_51 lk_X4_92 (by decide) (by decide) (Nat.le_of_ble_eq_true rfl) rfl (r_worth (X := uk X 2 (X 0)) hw hc12 ?_)
        have v2 := wrt_le hw c
        refine go_istore5 (q := 56) dX4_when_54 rfl (by decide) rfl ?_
        refine go_iload5 (q := 58) dX4_when_56 rfl ?_
        refine go_iloadn3 (q := 59) dX4_when_58 rfl ?_
        refine go_icmp_le (tgt := 67) (q := 62) dX4_when_59 (by decide) rfl (fun h5 => ?_) (fun h5 => ?_)
        · skip
          exact absurd h5 (nI_gm1 (by exact Nat.lt_of_le_of_lt v2 (by decide)))
        · skip
          refine go_iload4 (q := 64) dX4_when_62 rfl ?_
          refine go_goto (tgt := 68) dX4_when_64 (by decide) ?_
          refine go_istoren2 (q := 69) dX4_when_68 rfl (by decide) rfl ?_
          refine go_iload5 (q := 71) dX4_when_69 rfl ?_
          refine go_iloadn3 (q := 72) dX4_when_71 rfl ?_
          refine go_icmp_le (tgt := 80) (q := 75) dX4_when_72 (by decide) rfl (fun h6 => ?_) (fun h6 => ?_)
          · skip
            exact absurd h6 (nI_gm1 (by exact Nat.lt_of_le_of_lt v2 (by decide)))
          · skip
            refine go_iload5 (q := 77) dX4_when_75 rfl ?_
            refine go_goto (tgt := 81) dX4_when_77 (by decide) ?_
            refine go_istoren3 (q := 82) dX4_when_81 rfl (by decide) rfl ?_
            refine go_aloadn0 (q := 83) dX4_when_82 rfl ?_
            refine go_ix0 (q := 86) dX4_when_83 lk_X4_146 (by decide) (by decide) (Nat.le_of_ble_eq_true rfl) rfl (r_goesOn (X := uk X 2 (X 0)) hw hl (by show X 0 13 2 + 1 ≤ 10000; omega) (fun X2 g2 => ?_))
            refine go_iincN4 (n := 1) (q := 89) dX4_when_86 rfl (by decide) rfl ?_
            refine go_goto (tgt := 42) dX4_when_89 (by decide) ?_
            refine go_forget (lo' := [some (.ref 69), some (.int (nI c)), some (.int (nI 0)), some (.int (nI (wrt (monN (X 0) 0) c))), some (.int (nI 1)), none]) (fun i v hi => by match i, hi with | 0, h => exact h | 1, h => exact h | 2, h => exact h | 3, h => exact h | 4, h => exact h | 5, h => cases h) ?_
            exact r_when_42 hw hl hc12 (by omega) (hO c hc rfl h3) 26 1 0 X2 (by omega) (by omega) (by omega) g2 rfl (by omega)
    · skip
      refine go_aloadn0 (q := 25) dX4_when_24 rfl ?_
      refine go_ldc (q := 27) dX4_when_25 ko_X4_119 rfl ?_
      refine go_ix1 (q := 30) dX4_when_27 lk_X4_57 (by decide) (by decide) (Nat.le_of_ble_eq_true rfl) rfl (r_finds (p := 4) (by decide) (by decide) ?_)
      exact go_iret dX4_when_30 rfl (hS c hc rfl h3 _ (Xf.rf 4))
  · skip
    refine go_aloadn0 (q := 9) dX4_when_8 rfl ?_
    refine go_ldc (q := 11) dX4_when_9 ko_X4_42 rfl ?_
    refine go_ix1 (q := 14) dX4_when_11 lk_X4_57 (by decide) (by decide) (Nat.le_of_ble_eq_true rfl) rfl (r_finds (p := 0) (by decide) (by decide) ?_)
    exact go_iret dX4_when_14 rfl (hB h1 _ (Xf.rf 0))

set_option maxHeartbeats 4000000 in
set_option maxRecDepth 100000 in
theorem r_rots_39 {S : St} {N : Nat → Nat → Int64} {X : St} {Y : Nat → Int64} {Q : Option Value → AH → Prop} {c : Nat} (hw : WF (X 0)) (hl : WL (X 0)) (hc : c < 12) (hm : X 0 13 2 + 121 ≤ 10000) (hO : ∀ n, n ≤ 120 → monN (X 0) n 3 c = 1 → (∀ m, m < n → monN (X 0) m 3 c ≠ 1) → ∀ X', Xp X X' (X 0) → Q (some (.int (nI n))) (hp S N X' Y)) (hN : (∀ m, m ≤ 120 → monN (X 0) m 3 c ≠ 1) → ∀ X', Xf X X' 3 → Q (some (.int (-1000000004))) (hp S N X' Y)) : ∀ (fu : Nat) (k : Nat) (X1 : St), 121 - k < fu → (k ≤ 121) → (Xc (uk X 2 (X 0)) X1 (monN (X 0) k)) → (∀ m, m < k → monN (X 0) m 3 c ≠ 1) → Go 10 RX4 cX4_rots 4 (some .int) 39 [some (.ref 69), some (.int (nI c)), some (.int (-1)), some (.int (nI k))] [] (hp S N X1 Y) Q := by
  intro fu
  induction fu with
  | zero => intro k X1 hfu; exact absurd hfu (Nat.not_lt_zero _)
  | succ fu ih =>
    intro k X1 hfu hk g1 hall
    have e1 : X1 0 = monN (X 0) k := g1.1
    have hwf := wf_monN hw (n := k) (by omega)
    have hw1 : WF (X1 0) := by rw [e1]; exact hwf.1
    have hl1 : WL (X1 0) := by rw [e1]; exact wl_monN hl k
    have hst := hwf.1.st c
    refine go_iloadn3 (q := 40) dX4_rots_39 rfl ?_
    refine go_bipushN (v := 120) (q := 42) dX4_rots_40 (by decide) rfl ?_
    refine go_icmp_gtN (tgt := 75) (q := 45) dX4_rots_42 (by decide) rfl (by omega) (by omega) (fun h1 => ?_) (fun h1 => ?_)
    · skip
      refine go_aloadn0 (q := 76) dX4_rots_75 rfl ?_
      refine go_ix0 (q := 79) dX4_rots_76 lk_X4_163 (by decide) (by decide) (Nat.le_of_ble_eq_true rfl) rfl (r_laysBack ?_)
      refine go_iloadn2 (q := 80) dX4_rots_79 rfl ?_
      refine go_if_ge (tgt := 92) (q := 83) dX4_rots_80 (by decide) rfl (fun h9 => ?_) (fun h9 => ?_)
      · skip
        exact absurd h9 (by decide)
      · skip
        refine go_aloadn0 (q := 84) dX4_rots_83 rfl ?_
        refine go_ldc (q := 86) dX4_rots_84 ko_X4_166 rfl ?_
        refine go_ix1 (q := 89) dX4_rots_86 lk_X4_57 (by decide) (by decide) (Nat.le_of_ble_eq_true rfl) rfl (r_finds (p := 3) (by decide) (by decide) ?_)
        refine go_goto (tgt := 93) dX4_rots_89 (by decide) ?_
        exact go_iret dX4_rots_93 rfl (hN (fun m hm2 => hall m (by omega)) _ (g1.lb.f 3))
    · skip
      refine go_iloadn2 (q := 46) dX4_rots_45 rfl ?_
      refine go_if_ge (tgt := 75) (q := 49) dX4_rots_46 (by decide) rfl (fun h4 => ?_) (fun h4 => ?_)
      · skip
        exact absurd h4 (by decide)
      · skip
        refine go_aloadn0 (q := 50) dX4_rots_49 rfl ?_
        refine go_iloadn1 (q := 51) dX4_rots_50 rfl ?_
        refine go_iconstN (n := 3) (q := 52) dX4_rots_51 rfl ?_
        refine go_ix2 (q := 55) dX4_rots_52 lk_X4_84 (by decide) (by decide) (Nat.le_of_ble_eq_true rfl) rfl (r_is hc (by decide) ?_)
        rw [e1]
        refine go_iconstN (n := 1) (q := 56) dX4_rots_55 rfl ?_
        refine go_icmp_neN (tgt := 63) (q := 59) dX4_rots_56 (by decide) rfl (by omega) (by omega) (fun h5 => ?_) (fun h5 => ?_)
        · skip
          refine go_iconstV (v := -1) (q := 64) dX4_rots_63 (by decide) rfl ?_
          refine go_istoren2 (q := 65) dX4_rots_64 rfl (by decide) rfl ?_
          refine go_aloadn0 (q := 66) dX4_rots_65 rfl ?_
          refine go_ix0 (q := 69) dX4_rots_66 lk_X4_146 (by decide) (by decide) (Nat.le_of_ble_eq_true rfl) rfl (r_goesOn hw1 hl1 (by rw [e1, hwf.2]; omega) (fun X2 g2 => ?_))
          rw [e1] at g2
          refine go_iincN3 (n := 1) (q := 72) dX4_rots_69 rfl (by decide) rfl ?_
          refine go_goto (tgt := 39) dX4_rots_72 (by decide) ?_
          exact ih (k + 1) X2 (by omega) (by omega) (g1.tr g2) (fun m hm2 => by rcases Nat.lt_or_ge m k with z | z; exact hall m z; rw [show m = k by omega]; exact h5)
        · skip
          refine go_iloadn3 (q := 60) dX4_rots_59 rfl ?_
          refine go_goto (tgt := 64) dX4_rots_60 (by decide) ?_
          refine go_istoren2 (q := 65) dX4_rots_64 rfl (by decide) rfl ?_
          refine go_aloadn0 (q := 66) dX4_rots_65 rfl ?_
          refine go_ix0 (q := 69) dX4_rots_66 lk_X4_146 (by decide) (by decide) (Nat.le_of_ble_eq_true rfl) rfl (r_goesOn hw1 hl1 (by rw [e1, hwf.2]; omega) (fun X2 g2 => ?_))
          rw [e1] at g2
          refine go_iincN3 (n := 1) (q := 72) dX4_rots_69 rfl (by decide) rfl ?_
          refine go_goto (tgt := 39) dX4_rots_72 (by decide) ?_
          refine go_iloadn3 (q := 40) dX4_rots_39 rfl ?_
          refine go_bipushN (v := 120) (q := 42) dX4_rots_40 (by decide) rfl ?_
          refine go_icmp_gtN (tgt := 75) (q := 45) dX4_rots_42 (by decide) rfl (by omega) (by omega) (fun h6 => ?_) (fun h6 => ?_)
          · skip
            refine go_aloadn0 (q := 76) dX4_rots_75 rfl ?_
            refine go_ix0 (q := 79) dX4_rots_76 lk_X4_163 (by decide) (by decide) (Nat.le_of_ble_eq_true rfl) rfl (r_laysBack ?_)
            refine go_iloadn2 (q := 80) dX4_rots_79 rfl ?_
            refine go_if_geN (tgt := 92) (q := 83) dX4_rots_80 (by decide) rfl (by omega) (fun h9 => ?_) (fun h9 => ?_)
            · skip
              refine go_iloadn2 (q := 93) dX4_rots_92 rfl ?_
              exact go_iret dX4_rots_93 rfl (hO k (by omega) h5 hall _ (g1.tr g2).lb)
            · skip
              exact absurd trivial h9
          · skip
            refine go_iloadn2 (q := 46) dX4_rots_45 rfl ?_
            refine go_if_geN (tgt := 75) (q := 49) dX4_rots_46 (by decide) rfl (by omega) (fun h7 => ?_) (fun h7 => ?_)
            · skip
              refine go_aloadn0 (q := 76) dX4_rots_75 rfl ?_
              refine go_ix0 (q := 79) dX4_rots_76 lk_X4_163 (by decide) (by decide) (Nat.le_of_ble_eq_true rfl) rfl (r_laysBack ?_)
              refine go_iloadn2 (q := 80) dX4_rots_79 rfl ?_
              refine go_if_geN (tgt := 92) (q := 83) dX4_rots_80 (by decide) rfl (by omega) (fun h9 => ?_) (fun h9 => ?_)
              · skip
                refine go_iloadn2 (q := 93) dX4_rots_92 rfl ?_
                exact go_iret dX4_rots_93 rfl (hO k (by omega) h5 hall _ (g1.tr g2).lb)
              · skip
                exact absurd trivial h9
            · skip
              exact absurd trivial h7

set_option maxHeartbeats 4000000 in
set_option maxRecDepth 100000 in
theorem r_rots {S : St} {N : Nat → Nat → Int64} {X : St} {Y : Nat → Int64} {Q : Option Value → AH → Prop} {x : Int32} (hw : WF (X 0)) (hl : WL (X 0)) (hB : ¬ ic (X 0) x → ∀ X', Xf X X' 0 → Q (some (.int (-1000000001))) (hp S N X' Y)) (hS : ∀ c, c < X 0 13 0 → x = nI c → 9999 < X 0 13 2 + 120 → ∀ X', Xf X X' 4 → Q (some (.int (-1000000005))) (hp S N X' Y)) (hO : ∀ c n, c < X 0 13 0 → x = nI c → ¬ 9999 < X 0 13 2 + 120 → n ≤ 120 → monN (X 0) n 3 c = 1 → (∀ m, m < n → monN (X 0) m 3 c ≠ 1) → ∀ X', Xp X X' (X 0) → Q (some (.int (nI n))) (hp S N X' Y)) (hN : ∀ c, c < X 0 13 0 → x = nI c → ¬ 9999 < X 0 13 2 + 120 → (∀ m, m ≤ 120 → monN (X 0) m 3 c ≠ 1) → ∀ X', Xf X X' 3 → Q (some (.int (-1000000004))) (hp S N X' Y)) : Cn 10 yX4_rots cX4_rots 4 (some .int) [.ref 69, .int x] (hp S N X Y) Q := by
  refine cn_of (own := RX4) (lo := [some (.ref 69), some (.int x), none, none]) 2 rfl (by decide +kernel) rfl (Nat.le_of_ble_eq_true rfl) ?_
  refine go_aloadn0 (q := 1) dX4_rots_0 rfl ?_
  refine go_iloadn1 (q := 2) dX4_rots_1 rfl ?_
  refine go_ix1 (q := 5) dX4_rots_2 lk_X4_87 (by decide) (by decide) (Nat.le_of_ble_eq_true rfl) rfl (r_isCoin hw ?_)
  refine go_ifneB (tgt := 15) (q := 8) dX4_rots_5 (by decide) rfl (fun h1 => ?_) (fun h1 => ?_)
  · skip
    obtain ⟨c, hc, hc12, rfl⟩ := ic_nat h1 hw
    refine go_aloadn0 (q := 16) dX4_rots_15 rfl ?_
    refine go_bipushN (v := 120) (q := 18) dX4_rots_16 (by decide) rfl ?_
    refine go_ix1 (q := 21) dX4_rots_18 lk_X4_139 (by decide) (by decide) (Nat.le_of_ble_eq_true rfl) rfl (r_isFar hw (by omega) ?_)
    refine go_ifeqB (tgt := 31) (q := 24) dX4_rots_21 (by decide) rfl (fun h3 => ?_) (fun h3 => ?_)
    · skip
      refine go_aloadn0 (q := 32) dX4_rots_31 rfl ?_
      refine go_ix0 (q := 35) dX4_rots_32 lk_X4_160 (by decide) (by decide) (Nat.le_of_ble_eq_true rfl) rfl (r_laysBy ?_)
      refine go_iconstV (v := -1) (q := 36) dX4_rots_35 (by decide) rfl ?_
      refine go_istoren2 (q := 37) dX4_rots_36 rfl (by decide) rfl ?_
      refine go_iconstN (n := 0) (q := 38) dX4_rots_37 rfl ?_
      refine go_istoren3 (q := 39) dX4_rots_38 rfl (by decide) rfl ?_
      exact r_rots_39 hw hl hc12 (by omega) (fun n => hO c n hc rfl h3) (hN c hc rfl h3) 122 0 _ (by omega) (by omega) Xc.rf (fun m hm2 => absurd hm2 (Nat.not_lt_zero m))
    · skip
      refine go_aloadn0 (q := 25) dX4_rots_24 rfl ?_
      refine go_ldc (q := 27) dX4_rots_25 ko_X4_119 rfl ?_
      refine go_ix1 (q := 30) dX4_rots_27 lk_X4_57 (by decide) (by decide) (Nat.le_of_ble_eq_true rfl) rfl (r_finds (p := 4) (by decide) (by decide) ?_)
      exact go_iret dX4_rots_30 rfl (hS c hc rfl h3 _ (Xf.rf 4))
  · skip
    refine go_aloadn0 (q := 9) dX4_rots_8 rfl ?_
    refine go_ldc (q := 11) dX4_rots_9 ko_X4_42 rfl ?_
    refine go_ix1 (q := 14) dX4_rots_11 lk_X4_57 (by decide) (by decide) (Nat.le_of_ble_eq_true rfl) rfl (r_finds (p := 0) (by decide) (by decide) ?_)
    exact go_iret dX4_rots_14 rfl (hB h1 _ (Xf.rf 0))
