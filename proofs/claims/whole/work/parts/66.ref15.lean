theorem pop_z : pop 12 0 = 0 := by decide
theorem pop_pred : ∀ (w t : Nat), 0 < t → t < 2 ^ w → pop w t = pop w (t &&& (t - 1)) + 1 := by
  intro w
  induction w with
  | zero => intro t h0 h1; simp at h1; omega
  | succ w ih =>
    intro t h0 h1
    rw [Nat.pow_succ] at h1
    show t % 2 + pop w (t / 2) = (t &&& (t - 1)) % 2 + pop w ((t &&& (t - 1)) / 2) + 1
    rw [land_half, land_mod]
    by_cases ho : t % 2 = 1
    · rw [ho, show (t - 1) % 2 = 0 by omega, show (t - 1) / 2 = t / 2 by omega, Nat.and_self]
      omega
    · have h2 := ih (t / 2) (by omega) (by omega)
      rw [show t % 2 = 0 by omega, show (t - 1) / 2 = t / 2 - 1 by omega, h2]
      omega
theorem monN_130 (M : Mk) (n : Nat) : monN M n 13 0 = M 13 0 := by
  induction n with
  | zero => rfl
  | succ n ih => exact ((mon1_13 _).1).trans ih
theorem wl_swp {M : Mk} (h : WL M) (a b : Nat) : WL (swp M a b) := fun i hi => h i hi
theorem wl_plantS {M : Mk} (h : WL M) (s n : Nat) : WL (plantS M s n) := by
  intro i hi
  rw [plantS_13] at hi
  unfold plantS
  rw [if_neg (by omega)]
  exact h i hi

set_option maxHeartbeats 4000000 in
set_option maxRecDepth 100000 in
theorem r_manyIn_4 {h : AH} {Q : Option Value → AH → Prop} {s : Nat} (hs : s < 4096) (hQ : Q (some (.int (nI (pop 12 s)))) h) : ∀ (fu : Nat) (t a : Nat), t < fu → (t < 4096) → (a + pop 12 t = pop 12 s) → Go 1 RX4 cX4_manyIn 3 (some .int) 4 [some (.int (nI s)), some (.int (nI a)), some (.int (nI t))] [] h Q := by
  intro fu
  induction fu with
  | zero => intro t a hfu; exact absurd hfu (Nat.not_lt_zero _)
  | succ fu ih =>
    intro t a hfu ht ha
    refine go_iloadn2 (q := 5) dX4_manyIn_4 rfl ?_
    refine go_if_eqN (tgt := 20) (q := 8) dX4_manyIn_5 (by decide) rfl (by omega) (fun h1 => ?_) (fun h1 => ?_)
    · skip
      refine go_iloadn1 (q := 21) dX4_manyIn_20 rfl ?_
      exact go_iretN dX4_manyIn_21 rfl (by rw [← ha, h1, pop_z, Nat.add_zero]) hQ
    · skip
      refine go_iincN1 (n := 1) (q := 11) dX4_manyIn_8 rfl (by decide) rfl ?_
      refine go_iloadn2 (q := 12) dX4_manyIn_11 rfl ?_
      refine go_iloadn2 (q := 13) dX4_manyIn_12 rfl ?_
      refine go_iconstN (n := 1) (q := 14) dX4_manyIn_13 rfl ?_
      refine go_isubN (q := 15) dX4_manyIn_14 (by omega) rfl ?_
      refine go_iand (q := 16) dX4_manyIn_15 rfl ?_
      refine go_st (st' := [.int (nI (t &&& (t - 1)))]) (by rw [nI_and]) ?_
      refine go_istoren2 (q := 17) dX4_manyIn_16 rfl (by decide) rfl ?_
      refine go_goto (tgt := 4) dX4_manyIn_17 (by decide) ?_
      have hp := pop_pred 12 t (by omega) (by omega)
      have hle : t &&& (t - 1) ≤ t - 1 := Nat.and_le_right
      exact ih (t &&& (t - 1)) (a + 1) (by omega) (by omega) (by omega)

set_option maxHeartbeats 4000000 in
set_option maxRecDepth 100000 in
theorem r_manyIn {h : AH} {Q : Option Value → AH → Prop} {s : Nat} (hs : s < 4096) (hQ : Q (some (.int (nI (pop 12 s)))) h) : Cn 1 yX4_manyIn cX4_manyIn 3 (some .int) [.int (nI s)] h Q := by
  refine cn_of (own := RX4) (lo := [some (.int (nI s)), none, none]) 2 rfl (by decide +kernel) rfl (Nat.le_of_ble_eq_true rfl) ?_
  refine go_iconstN (n := 0) (q := 1) dX4_manyIn_0 rfl ?_
  refine go_istoren1 (q := 2) dX4_manyIn_1 rfl (by decide) rfl ?_
  refine go_iloadn0 (q := 3) dX4_manyIn_2 rfl ?_
  refine go_istoren2 (q := 4) dX4_manyIn_3 rfl (by decide) rfl ?_
  exact r_manyIn_4 hs hQ (s + 1) s 0 (by omega) hs (by omega)

set_option maxHeartbeats 4000000 in
set_option maxRecDepth 100000 in
theorem r_goodBy {S : St} {N : Nat → Nat → Int64} {X : St} {Y : Nat → Int64} {Q : Option Value → AH → Prop} {a b n : Nat} (hw : WF (X 0)) (hl : WL (X 0)) (ha : a < 12) (hb : b < 12) (hn : n < 2 ^ 31) (hm : X 0 13 2 + n ≤ 10000) (hO : ∀ X', Xc X X' (X 2) → Q (some (.int (nI (X 0 13 0 - many (monN (swp (X 0) a b) n) 1)))) (hp S N X' Y)) : Cn 10 yX4_goodBy cX4_goodBy 5 (some .int) [.ref 69, .int (nI a), .int (nI b), .int (nI n)] (hp S N X Y) Q := by
  refine cn_of (own := RX4) (lo := [some (.ref 69), some (.int (nI a)), some (.int (nI b)), some (.int (nI n)), none]) 1 rfl (by decide +kernel) rfl (Nat.le_of_ble_eq_true rfl) ?_
  have hws := wf_swp hw a b
  have hls : WL (swp (X 0) a b) := wl_swp hl a b
  have hms : swp (X 0) a b 13 2 + n ≤ 10000 := hm
  refine go_aloadn0 (q := 1) dX4_goodBy_0 rfl ?_
  refine go_iloadn1 (q := 2) dX4_goodBy_1 rfl ?_
  refine go_iloadn2 (q := 3) dX4_goodBy_2 rfl ?_
  refine go_ix2 (q := 6) dX4_goodBy_3 lk_X4_111 (by decide) (by decide) (Nat.le_of_ble_eq_true rfl) rfl (r_swaps ha hb (fun X1 g1 => ?_))
  refine go_aloadn0 (q := 7) dX4_goodBy_6 rfl ?_
  refine go_iloadn3 (q := 8) dX4_goodBy_7 rfl ?_
  refine go_ix1 (q := 11) dX4_goodBy_8 lk_X4_152 (by decide) (by decide) (Nat.le_of_ble_eq_true rfl) rfl (r_goesOnMany (X := X1) (by rw [g1.1]; exact hws) (by rw [g1.1]; exact hls) hn (by rw [g1.1]; exact hms) (fun X2 g2 => ?_))
  rw [g1.1] at g2
  have f := wf_monN hws (n := n) hms
  have hw2 : WF (X2 0) := by rw [g2.1]; exact f.1
  have e0 : X2 0 13 0 = X 0 13 0 := by rw [g2.1, monN_130]; rfl
  have ml : many (monN (swp (X 0) a b) n) 1 ≤ X 0 13 0 := by have := many_le (monN (swp (X 0) a b) n) 1; rw [monN_130] at this; exact this
  refine go_aloadn0 (q := 12) dX4_goodBy_11 rfl ?_
  refine go_xg (q := 15) dX4_goodBy_12 fl_X4_7 rfl rfl ?_
  refine go_iconstN (n := 0) (q := 16) dX4_goodBy_15 rfl ?_
  refine go_rld (q := 17) dX4_goodBy_16 (rr_13 (f := 0) (by decide)) rfl ?_
  rw [e0]
  refine go_aloadn0 (q := 18) dX4_goodBy_17 rfl ?_
  refine go_iconstN (n := 1) (q := 19) dX4_goodBy_18 rfl ?_
  refine go_ix1 (q := 22) dX4_goodBy_19 lk_X4_149 (by decide) (by decide) (Nat.le_of_ble_eq_true rfl) rfl (r_manyThat hw2 (by decide) ?_)
  rw [g2.1]
  refine go_isubN (q := 23) dX4_goodBy_22 ml rfl ?_
  refine go_istore4 (q := 25) dX4_goodBy_23 rfl (by decide) rfl ?_
  refine go_aloadn0 (q := 26) dX4_goodBy_25 rfl ?_
  refine go_ix0 (q := 29) dX4_goodBy_26 lk_X4_163 (by decide) (by decide) (Nat.le_of_ble_eq_true rfl) rfl (r_laysBack ?_)
  refine go_iload4 (q := 31) dX4_goodBy_29 rfl ?_
  exact go_iret dX4_goodBy_31 rfl (hO _ (g1.tr g2).bk)

set_option maxHeartbeats 4000000 in
set_option maxRecDepth 100000 in
theorem r_purseBy_3 {S : St} {N : Nat → Nat → Int64} {X : St} {Y : Nat → Int64} {Q : Option Value → AH → Prop} {f s n : Nat} (hw : WF (X 0)) (hl : WL (X 0)) (hf : f ≤ 3) (hs : s < 4096) (hn : n < 2 ^ 31) (hm : X 0 13 2 + n ≤ 10000) (hO : ∀ X', Xc X X' (X 2) → Q (some (.int (nI (purse (monN (plantS (X 0) s (X 0 13 0)) n) f)))) (hp S N X' Y)) : ∀ (fu : Nat) (c : Nat) (X1 : St), X 0 13 0 - c < fu → (c ≤ X 0 13 0) → (Xc X X1 (plantS (X 0) s c)) → Go 10 RX4 cX4_purseBy 5 (some .int) 3 [some (.ref 69), some (.int (nI f)), some (.int (nI s)), some (.int (nI n)), some (.int (nI c))] [] (hp S N X1 Y) Q := by
  intro fu
  induction fu with
  | zero => intro c X1 hfu; exact absurd hfu (Nat.not_lt_zero _)
  | succ fu ih =>
    intro c X1 hfu hc g1
    have hco := hw.co
    have e0 : X1 0 13 0 = X 0 13 0 := by rw [g1.1, plantS_13]
    refine go_iload4 (q := 5) dX4_purseBy_3 rfl ?_
    refine go_aloadn0 (q := 6) dX4_purseBy_5 rfl ?_
    refine go_xg (q := 9) dX4_purseBy_6 fl_X4_7 rfl rfl ?_
    refine go_iconstN (n := 0) (q := 10) dX4_purseBy_9 rfl ?_
    refine go_rld (q := 11) dX4_purseBy_10 (rr_13 (f := 0) (by decide)) rfl ?_
    rw [e0]
    refine go_icmp_geN (tgt := 38) (q := 14) dX4_purseBy_11 (by decide) rfl (by omega) (by omega) (fun h1 => ?_) (fun h1 => ?_)
    · skip
      obtain rfl : c = X 0 13 0 := by omega
      have hwp := wf_plantS hw s (X 0 13 0)
      have hlp : WL (plantS (X 0) s (X 0 13 0)) := wl_plantS hl _ _
      have hmp : plantS (X 0) s (X 0 13 0) 13 2 + n ≤ 10000 := by rw [plantS_13]; exact hm
      refine go_aloadn0 (q := 39) dX4_purseBy_38 rfl ?_
      refine go_iloadn3 (q := 40) dX4_purseBy_39 rfl ?_
      refine go_ix1 (q := 43) dX4_purseBy_40 lk_X4_152 (by decide) (by decide) (Nat.le_of_ble_eq_true rfl) rfl (r_goesOnMany (X := X1) (by rw [g1.1]; exact hwp) (by rw [g1.1]; exact hlp) hn (by rw [g1.1]; exact hmp) (fun X2 g2 => ?_))
      rw [g1.1] at g2
      have hw2 : WF (X2 0) := by rw [g2.1]; exact (wf_monN hwp (n := n) hmp).1
      refine go_aloadn0 (q := 44) dX4_purseBy_43 rfl ?_
      refine go_iloadn1 (q := 45) dX4_purseBy_44 rfl ?_
      refine go_ix1 (q := 48) dX4_purseBy_45 lk_X4_120 (by decide) (by decide) (Nat.le_of_ble_eq_true rfl) rfl (r_purseOf hw2 (by omega) ?_)
      rw [g2.1]
      refine go_istore4 (q := 50) dX4_purseBy_48 rfl (by decide) rfl ?_
      refine go_aloadn0 (q := 51) dX4_purseBy_50 rfl ?_
      refine go_ix0 (q := 54) dX4_purseBy_51 lk_X4_163 (by decide) (by decide) (Nat.le_of_ble_eq_true rfl) rfl (r_laysBack ?_)
      refine go_iload4 (q := 56) dX4_purseBy_54 rfl ?_
      exact go_iret dX4_purseBy_56 rfl (hO _ (g1.tr g2).bk)
    · skip
      refine go_iloadn2 (q := 15) dX4_purseBy_14 rfl ?_
      refine go_iload4 (q := 17) dX4_purseBy_15 rfl ?_
      refine go_ishr (q := 18) dX4_purseBy_17 rfl ?_
      refine go_iconstN (n := 1) (q := 19) dX4_purseBy_18 rfl ?_
      refine go_iand (q := 20) dX4_purseBy_19 rfl ?_
      refine go_st (st' := [.int (nI (bit s c))]) (by rw [m_bit (by omega) (by omega)]) ?_
      have hb01 := bit_01 s c
      refine go_iconstN (n := 1) (q := 21) dX4_purseBy_20 rfl ?_
      refine go_icmp_neN (tgt := 32) (q := 24) dX4_purseBy_21 (by decide) rfl (by omega) (by omega) (fun h2 => ?_) (fun h2 => ?_)
      · skip
        refine go_iincN4 (n := 1) (q := 35) dX4_purseBy_32 rfl (by decide) rfl ?_
        refine go_goto (tgt := 3) dX4_purseBy_35 (by decide) ?_
        exact ih (c + 1) X1 (by omega) (by omega) (g1.to (plantS_no h2).symm)
      · skip
        refine go_aloadn0 (q := 25) dX4_purseBy_24 rfl ?_
        refine go_iload4 (q := 27) dX4_purseBy_25 rfl ?_
        refine go_iconstN (n := 3) (q := 28) dX4_purseBy_27 rfl ?_
        refine go_iconstN (n := 2) (q := 29) dX4_purseBy_28 rfl ?_
        refine go_ix3 (q := 32) dX4_purseBy_29 lk_X4_65 (by decide) (by decide) (Nat.le_of_ble_eq_true rfl) rfl (r_puts (by omega) (by decide) ?_)
        refine go_iincN4 (n := 1) (q := 35) dX4_purseBy_32 rfl (by decide) rfl ?_
        refine go_goto (tgt := 3) dX4_purseBy_35 (by decide) ?_
        exact ih (c + 1) _ (by omega) (by omega) ((g1.u 3 c 2).to (plantS_yes h2).symm)

set_option maxHeartbeats 4000000 in
set_option maxRecDepth 100000 in
theorem r_purseBy {S : St} {N : Nat → Nat → Int64} {X : St} {Y : Nat → Int64} {Q : Option Value → AH → Prop} {f s n : Nat} (hw : WF (X 0)) (hl : WL (X 0)) (hf : f ≤ 3) (hs : s < 4096) (hn : n < 2 ^ 31) (hm : X 0 13 2 + n ≤ 10000) (hO : ∀ X', Xc X X' (X 2) → Q (some (.int (nI (purse (monN (plantS (X 0) s (X 0 13 0)) n) f)))) (hp S N X' Y)) : Cn 10 yX4_purseBy cX4_purseBy 5 (some .int) [.ref 69, .int (nI f), .int (nI s), .int (nI n)] (hp S N X Y) Q := by
  refine cn_of (own := RX4) (lo := [some (.ref 69), some (.int (nI f)), some (.int (nI s)), some (.int (nI n)), none]) 1 rfl (by decide +kernel) rfl (Nat.le_of_ble_eq_true rfl) ?_
  refine go_iconstN (n := 0) (q := 1) dX4_purseBy_0 rfl ?_
  refine go_istore4 (q := 3) dX4_purseBy_1 rfl (by decide) rfl ?_
  exact r_purseBy_3 hw hl hf hs hn hm hO (X 0 13 0 + 1) 0 X (by omega) (by omega) (Xc.rf.to (plantS_0 _ _).symm)
