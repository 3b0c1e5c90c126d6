theorem setS_s2 (p : Nat → Bool) (n : Nat) : setS p (n + 1) = setS p n + if p n = true then 2 ^ n else 0 := rfl

set_option maxHeartbeats 4000000 in
set_option maxRecDepth 100000 in
theorem r_purseOf_4 {S : St} {N : Nat → Nat → Int64} {X : St} {Y : Nat → Int64} {Q : Option Value → AH → Prop} {f : Nat} (hw : WF (X 0)) (ho : f < 2 ^ 31) (hQ : Q (some (.int (nI (purse (X 0) f)))) (hp S N X Y)) : ∀ (fu : Nat) (c a : Nat), X 0 13 0 - c < fu → (c ≤ X 0 13 0) → (sm (vl (X 0) f) c = a) → Go 3 RX4 cX4_purseOf 4 (some .int) 4 [some (.ref 69), some (.int (nI f)), some (.int (nI a)), some (.int (nI c))] [] (hp S N X Y) Q := by
  intro fu
  induction fu with
  | zero => intro c a hfu; exact absurd hfu (Nat.not_lt_zero _)
  | succ fu ih =>
    intro c a hfu hc ha
    have hco := hw.co
    refine go_iloadn3 (q := 5) dX4_purseOf_4 rfl ?_
    refine go_aloadn0 (q := 6) dX4_purseOf_5 rfl ?_
    refine go_xg (q := 9) dX4_purseOf_6 fl_X4_7 rfl rfl ?_
    refine go_iconstN (n := 0) (q := 10) dX4_purseOf_9 rfl ?_
    refine go_rld (q := 11) dX4_purseOf_10 (rr_13 (f := 0) (by decide)) rfl ?_
    refine go_icmp_geN (tgt := 42) (q := 14) dX4_purseOf_11 (by decide) rfl (by omega) (by omega) (fun h1 => ?_) (fun h1 => ?_)
    · skip
      refine go_iloadn2 (q := 43) dX4_purseOf_42 rfl ?_
      exact go_iretN dX4_purseOf_43 rfl (by rw [purse_vl, ← ha, show c = X 0 13 0 by omega]) hQ
    · skip
      refine go_iloadn2 (q := 15) dX4_purseOf_14 rfl ?_
      refine go_aloadn0 (q := 16) dX4_purseOf_15 rfl ?_
      refine go_iloadn3 (q := 17) dX4_purseOf_16 rfl ?_
      refine go_iconstN (n := 1) (q := 18) dX4_purseOf_17 rfl ?_
      refine go_ix2 (q := 21) dX4_purseOf_18 lk_X4_84 (by decide) (by decide) (Nat.le_of_ble_eq_true rfl) rfl (r_is (by omega) (by decide) ?_)
      have hown := hw.ow c
      refine go_iloadn1 (q := 22) dX4_purseOf_21 rfl ?_
      refine go_icmp_neN (tgt := 33) (q := 25) dX4_purseOf_22 (by decide) rfl (by omega) (by omega) (fun h2 => ?_) (fun h2 => ?_)
      · skip
        refine go_iconstN (n := 0) (q := 34) dX4_purseOf_33 rfl ?_
        refine go_iaddN (q := 35) dX4_purseOf_34 rfl ?_
        refine go_istoren2 (q := 36) dX4_purseOf_35 rfl (by decide) rfl ?_
        refine go_iincN3 (n := 1) (q := 39) dX4_purseOf_36 rfl (by decide) rfl ?_
        refine go_goto (tgt := 4) dX4_purseOf_39 (by decide) ?_
        exact ih (c + 1) (a + 0) (by omega) (by omega) (by rw [sm_s, vl_alt, if_neg h2, ha])
      · skip
        refine go_aloadn0 (q := 26) dX4_purseOf_25 rfl ?_
        refine go_iloadn3 (q := 27) dX4_purseOf_26 rfl ?_
        refine go_ix1 (q := 30) dX4_purseOf_27 lk_X4_92 (by decide) (by decide) (Nat.le_of_ble_eq_true rfl) rfl (r_worth hw (by omega) ?_)
        refine go_goto (tgt := 34) dX4_purseOf_30 (by decide) ?_
        refine go_iaddN (q := 35) dX4_purseOf_34 rfl ?_
        refine go_istoren2 (q := 36) dX4_purseOf_35 rfl (by decide) rfl ?_
        refine go_iincN3 (n := 1) (q := 39) dX4_purseOf_36 rfl (by decide) rfl ?_
        refine go_goto (tgt := 4) dX4_purseOf_39 (by decide) ?_
        exact ih (c + 1) (a + wrt (X 0) c) (by omega) (by omega) (by rw [sm_s, vl_alt, if_pos h2, ha])

set_option maxHeartbeats 4000000 in
set_option maxRecDepth 100000 in
theorem r_purseOf {S : St} {N : Nat → Nat → Int64} {X : St} {Y : Nat → Int64} {Q : Option Value → AH → Prop} {f : Nat} (hw : WF (X 0)) (ho : f < 2 ^ 31) (hQ : Q (some (.int (nI (purse (X 0) f)))) (hp S N X Y)) : Cn 3 yX4_purseOf cX4_purseOf 4 (some .int) [.ref 69, .int (nI f)] (hp S N X Y) Q := by
  refine cn_of (own := RX4) (lo := [some (.ref 69), some (.int (nI f)), none, none]) 2 rfl (by decide +kernel) rfl (Nat.le_of_ble_eq_true rfl) ?_
  refine go_iconstN (n := 0) (q := 1) dX4_purseOf_0 rfl ?_
  refine go_istoren2 (q := 2) dX4_purseOf_1 rfl (by decide) rfl ?_
  refine go_iconstN (n := 0) (q := 3) dX4_purseOf_2 rfl ?_
  refine go_istoren3 (q := 4) dX4_purseOf_3 rfl (by decide) rfl ?_
  exact r_purseOf_4 hw ho hQ (X 0 13 0 + 1) 0 0 (by omega) (by omega) rfl

set_option maxHeartbeats 4000000 in
set_option maxRecDepth 100000 in
theorem r_purse {S : St} {N : Nat → Nat → Int64} {X : St} {Y : Nat → Int64} {Q : Option Value → AH → Prop} {x : Int32} (hw : WF (X 0)) (hB : ¬ rg x 0 3 → ∀ X', Xf X X' 0 → Q (some (.int (-1000000001))) (hp S N X' Y)) (hO : ∀ i, i ≤ 3 → x = nI i → Q (some (.int (nI (purse (X 0) i)))) (hp S N X Y)) : Cn 4 yX4_purse cX4_purse 2 (some .int) [.ref 69, .int x] (hp S N X Y) Q := by
  refine cn_of (own := RX4) (lo := [some (.ref 69), some (.int x)]) 0 rfl (by decide +kernel) rfl (Nat.le_of_ble_eq_true rfl) ?_
  refine go_iloadn1 (q := 1) dX4_purse_0 rfl ?_
  refine go_is1_ (q := 4) dX4_purse_1 lk_X4_43 (by decide) (by decide) (Nat.le_of_ble_eq_true rfl) rfl (r_isOwner ?_)
  refine go_ifeqB (tgt := 15) (q := 7) dX4_purse_4 (by decide) rfl (fun h1 => ?_) (fun h1 => ?_)
  · skip
    refine go_aloadn0 (q := 16) dX4_purse_15 rfl ?_
    refine go_ldc (q := 18) dX4_purse_16 ko_X4_42 rfl ?_
    refine go_ix1 (q := 21) dX4_purse_18 lk_X4_57 (by decide) (by decide) (Nat.le_of_ble_eq_true rfl) rfl (r_finds (p := 0) (by decide) (by decide) ?_)
    exact go_iret dX4_purse_21 rfl (hB h1 _ (Xf.rf 0))
  · skip
    obtain ⟨i, hi, rfl, -, -⟩ := rg_nat (n := 3) h1 (by omega) (by omega)
    refine go_aloadn0 (q := 8) dX4_purse_7 rfl ?_
    refine go_iloadn1 (q := 9) dX4_purse_8 rfl ?_
    refine go_ix1 (q := 12) dX4_purse_9 lk_X4_120 (by decide) (by decide) (Nat.le_of_ble_eq_true rfl) rfl (r_purseOf hw (by omega) ?_)
    refine go_goto (tgt := 21) dX4_purse_12 (by decide) ?_
    exact go_iret dX4_purse_21 rfl (hO i hi rfl)

set_option maxHeartbeats 4000000 in
set_option maxRecDepth 100000 in
theorem r_soundOf_4 {S : St} {N : Nat → Nat → Int64} {X : St} {Y : Nat → Int64} {Q : Option Value → AH → Prop} {f : Nat} (hw : WF (X 0)) (ho : f < 2 ^ 31) (hQ : Q (some (.int (nI (sets (X 0) f)))) (hp S N X Y)) : ∀ (fu : Nat) (c a : Nat), X 0 13 0 - c < fu → (c ≤ X 0 13 0) → (setS (fun c => decide (snd (X 0) f c)) c = a) → Go 3 RX4 cX4_soundOf 4 (some .int) 4 [some (.ref 69), some (.int (nI f)), some (.int (nI a)), some (.int (nI c))] [] (hp S N X Y) Q := by
  intro fu
  induction fu with
  | zero => intro c a hfu; exact absurd hfu (Nat.not_lt_zero _)
  | succ fu ih =>
    intro c a hfu hc ha
    have hco := hw.co
    have hlt := setS_lt (fun c => decide (snd (X 0) f c)) c
    refine go_iloadn3 (q := 5) dX4_soundOf_4 rfl ?_
    refine go_aloadn0 (q := 6) dX4_soundOf_5 rfl ?_
    refine go_xg (q := 9) dX4_soundOf_6 fl_X4_7 rfl rfl ?_
    refine go_iconstN (n := 0) (q := 10) dX4_soundOf_9 rfl ?_
    refine go_rld (q := 11) dX4_soundOf_10 (rr_13 (f := 0) (by decide)) rfl ?_
    refine go_icmp_geN (tgt := 49) (q := 14) dX4_soundOf_11 (by decide) rfl (by omega) (by omega) (fun h1 => ?_) (fun h1 => ?_)
    · skip
      refine go_iloadn2 (q := 50) dX4_soundOf_49 rfl ?_
      exact go_iretN dX4_soundOf_50 rfl (by unfold sets; rw [← ha, show c = X 0 13 0 by omega]) hQ
    · skip
      refine go_iloadn2 (q := 15) dX4_soundOf_14 rfl ?_
      refine go_aloadn0 (q := 16) dX4_soundOf_15 rfl ?_
      refine go_iloadn3 (q := 17) dX4_soundOf_16 rfl ?_
      refine go_iconstN (n := 1) (q := 18) dX4_soundOf_17 rfl ?_
      refine go_ix2 (q := 21) dX4_soundOf_18 lk_X4_84 (by decide) (by decide) (Nat.le_of_ble_eq_true rfl) rfl (r_is (by omega) (by decide) ?_)
      have hown := hw.ow c
      refine go_iloadn1 (q := 22) dX4_soundOf_21 rfl ?_
      refine go_icmp_neN (tgt := 40) (q := 25) dX4_soundOf_22 (by decide) rfl (by omega) (by omega) (fun h2 => ?_) (fun h2 => ?_)
      · skip
        refine go_iconstN (n := 0) (q := 41) dX4_soundOf_40 rfl ?_
        refine go_ior (q := 42) dX4_soundOf_41 rfl ?_
        refine go_st (st' := [.int (nI a)]) (by rw [nI_or, Nat.or_zero]) ?_
        refine go_istoren2 (q := 43) dX4_soundOf_42 rfl (by decide) rfl ?_
        refine go_iincN3 (n := 1) (q := 46) dX4_soundOf_43 rfl (by decide) rfl ?_
        refine go_goto (tgt := 4) dX4_soundOf_46 (by decide) ?_
        exact ih (c + 1) a (by omega) (by omega) (by rw [setS_s2, ha, if_neg (by rw [decide_eq_true_eq]; exact (fun z => h2 z.2)), Nat.add_zero])
      · skip
        refine go_aloadn0 (q := 26) dX4_soundOf_25 rfl ?_
        refine go_iloadn3 (q := 27) dX4_soundOf_26 rfl ?_
        refine go_iconstN (n := 3) (q := 28) dX4_soundOf_27 rfl ?_
        refine go_ix2 (q := 31) dX4_soundOf_28 lk_X4_84 (by decide) (by decide) (Nat.le_of_ble_eq_true rfl) rfl (r_is (by omega) (by decide) ?_)
        have hst := hw.st c
        refine go_if_neN (tgt := 40) (q := 34) dX4_soundOf_31 (by decide) rfl (by omega) (fun h3 => ?_) (fun h3 => ?_)
        · skip
          refine go_iconstN (n := 0) (q := 41) dX4_soundOf_40 rfl ?_
          refine go_ior (q := 42) dX4_soundOf_41 rfl ?_
          refine go_st (st' := [.int (nI a)]) (by rw [nI_or, Nat.or_zero]) ?_
          refine go_istoren2 (q := 43) dX4_soundOf_42 rfl (by decide) rfl ?_
          refine go_iincN3 (n := 1) (q := 46) dX4_soundOf_43 rfl (by decide) rfl ?_
          refine go_goto (tgt := 4) dX4_soundOf_46 (by decide) ?_
          exact ih (c + 1) a (by omega) (by omega) (by rw [setS_s2, ha, if_neg (by rw [decide_eq_true_eq]; exact (fun z => h3 z.1)), Nat.add_zero])
        · skip
          refine go_iconstN (n := 1) (q := 35) dX4_soundOf_34 rfl ?_
          refine go_iloadn3 (q := 36) dX4_soundOf_35 rfl ?_
          refine go_ishl (q := 37) dX4_soundOf_36 rfl ?_
          refine go_goto (tgt := 41) dX4_soundOf_37 (by decide) ?_
          refine go_ior (q := 42) dX4_soundOf_41 rfl ?_
          refine go_st (st' := [.int (nI (a + 2 ^ c))]) (by rw [m_or (by omega) (by rw [← ha]; exact hlt)]) ?_
          refine go_istoren2 (q := 43) dX4_soundOf_42 rfl (by decide) rfl ?_
          refine go_iincN3 (n := 1) (q := 46) dX4_soundOf_43 rfl (by decide) rfl ?_
          refine go_goto (tgt := 4) dX4_soundOf_46 (by decide) ?_
          exact ih (c + 1) (a + 2 ^ c) (by omega) (by omega) (by rw [setS_s2, ha, if_pos (decide_eq_true ⟨h3, h2⟩)])

set_option maxHeartbeats 4000000 in
set_option maxRecDepth 100000 in
theorem r_soundOf {S : St} {N : Nat → Nat → Int64} {X : St} {Y : Nat → Int64} {Q : Option Value → AH → Prop} {f : Nat} (hw : WF (X 0)) (ho : f < 2 ^ 31) (hQ : Q (some (.int (nI (sets (X 0) f)))) (hp S N X Y)) : Cn 3 yX4_soundOf cX4_soundOf 4 (some .int) [.ref 69, .int (nI f)] (hp S N X Y) Q := by
  refine cn_of (own := RX4) (lo := [some (.ref 69), some (.int (nI f)), none, none]) 2 rfl (by decide +kernel) rfl (Nat.le_of_ble_eq_true rfl) ?_
  refine go_iconstN (n := 0) (q := 1) dX4_soundOf_0 rfl ?_
  refine go_istoren2 (q := 2) dX4_soundOf_1 rfl (by decide) rfl ?_
  refine go_iconstN (n := 0) (q := 3) dX4_soundOf_2 rfl ?_
  refine go_istoren3 (q := 4) dX4_soundOf_3 rfl (by decide) rfl ?_
  exact r_soundOf_4 hw ho hQ (X 0 13 0 + 1) 0 0 (by omega) (by omega) rfl

set_option maxHeartbeats 4000000 in
set_option maxRecDepth 100000 in
theorem r_lowest_2 {h : AH} {Q : Option Value → AH → Prop} {t : Nat} (h0 : 0 < t) (ht : t < 4096) (hQ : ∀ c, c < 12 → bit t c = 1 → (∀ d, d < c → bit t d = 0) → Q (some (.int (nI c))) h) : ∀ (fu : Nat) (c : Nat), 12 - c < fu → (c < 12) → (∀ d, d < c → bit t d = 0) → Go 1 RX4 cX4_lowest 2 (some .int) 2 [some (.int (nI t)), some (.int (nI c))] [] h Q := by
  intro fu
  induction fu with
  | zero => intro c hfu; exact absurd hfu (Nat.not_lt_zero _)
  | succ fu ih =>
    intro c hfu hc hb
    have hb01 := bit_01 t c
    refine go_iloadn0 (q := 3) dX4_lowest_2 rfl ?_
    refine go_iloadn1 (q := 4) dX4_lowest_3 rfl ?_
    refine go_ishr (q := 5) dX4_lowest_4 rfl ?_
    refine go_iconstN (n := 1) (q := 6) dX4_lowest_5 rfl ?_
    refine go_iand (q := 7) dX4_lowest_6 rfl ?_
    refine go_st (st' := [.int (nI (bit t c))]) (by rw [m_bit (by omega) (by omega)]) ?_
    refine go_if_neN (tgt := 16) (q := 10) dX4_lowest_7 (by decide) rfl (by omega) (fun h1 => ?_) (fun h1 => ?_)
    · skip
      refine go_iloadn1 (q := 17) dX4_lowest_16 rfl ?_
      exact go_iret dX4_lowest_17 rfl (hQ c hc (by omega) hb)
    · skip
      refine go_iincN1 (n := 1) (q := 13) dX4_lowest_10 rfl (by decide) rfl ?_
      refine go_goto (tgt := 2) dX4_lowest_13 (by decide) ?_
      have hb2 : ∀ d, d < c + 1 → bit t d = 0 := fun d hd => by rcases Nat.lt_or_ge d c with z | z; exact hb d z; rw [show d = c by omega]; exact h1
      have hc2 : c + 1 < 12 := Decidable.byContradiction fun z => absurd (bits0 12 t (by omega) (fun d hd => hb2 d (by omega))) (by omega)
      exact ih (c + 1) (by omega) hc2 hb2

set_option maxHeartbeats 4000000 in
set_option maxRecDepth 100000 in
theorem r_lowest {h : AH} {Q : Option Value → AH → Prop} {t : Nat} (h0 : 0 < t) (ht : t < 4096) (hQ : ∀ c, c < 12 → bit t c = 1 → (∀ d, d < c → bit t d = 0) → Q (some (.int (nI c))) h) : Cn 1 yX4_lowest cX4_lowest 2 (some .int) [.int (nI t)] h Q := by
  refine cn_of (own := RX4) (lo := [some (.int (nI t)), none]) 1 rfl (by decide +kernel) rfl (Nat.le_of_ble_eq_true rfl) ?_
  refine go_iconstN (n := 0) (q := 1) dX4_lowest_0 rfl ?_
  refine go_istoren1 (q := 2) dX4_lowest_1 rfl (by decide) rfl ?_
  exact r_lowest_2 h0 ht hQ 13 0 (by omega) (by omega) (fun d hd => absurd hd (Nat.not_lt_zero d))

set_option maxHeartbeats 4000000 in
set_option maxRecDepth 100000 in
theorem r_manyThat_4 {S : St} {N : Nat → Nat → Int64} {X : St} {Y : Nat → Int64} {Q : Option Value → AH → Prop} {s : Nat} (hw : WF (X 0)) (hs : s < 2 ^ 31) (hQ : Q (some (.int (nI (many (X 0) s)))) (hp S N X Y)) : ∀ (fu : Nat) (c a : Nat), X 0 13 0 - c < fu → (c ≤ X 0 13 0) → (sm (fun c => if X 0 3 c = s then 1 else 0) c = a) → Go 3 RX4 cX4_manyThat 4 (some .int) 4 [some (.ref 69), some (.int (nI s)), some (.int (nI a)), some (.int (nI c))] [] (hp S N X Y) Q := by
  intro fu
  induction fu with
  | zero => intro c a hfu; exact absurd hfu (Nat.not_lt_zero _)
  | succ fu ih =>
    intro c a hfu hc ha
    have hco := hw.co
    refine go_iloadn3 (q := 5) dX4_manyThat_4 rfl ?_
    refine go_aloadn0 (q := 6) dX4_manyThat_5 rfl ?_
    refine go_xg (q := 9) dX4_manyThat_6 fl_X4_7 rfl rfl ?_
    refine go_iconstN (n := 0) (q := 10) dX4_manyThat_9 rfl ?_
    refine go_rld (q := 11) dX4_manyThat_10 (rr_13 (f := 0) (by decide)) rfl ?_
    refine go_icmp_geN (tgt := 38) (q := 14) dX4_manyThat_11 (by decide) rfl (by omega) (by omega) (fun h1 => ?_) (fun h1 => ?_)
    · skip
      refine go_iloadn2 (q := 39) dX4_manyThat_38 rfl ?_
      exact go_iretN dX4_manyThat_39 rfl (by unfold many; rw [← ha, show c = X 0 13 0 by omega]) hQ
    · skip
      refine go_iloadn2 (q := 15) dX4_manyThat_14 rfl ?_
      refine go_aloadn0 (q := 16) dX4_manyThat_15 rfl ?_
      refine go_iloadn3 (q := 17) dX4_manyThat_16 rfl ?_
      refine go_iconstN (n := 3) (q := 18) dX4_manyThat_17 rfl ?_
      refine go_ix2 (q := 21) dX4_manyThat_18 lk_X4_84 (by decide) (by decide) (Nat.le_of_ble_eq_true rfl) rfl (r_is (by omega) (by decide) ?_)
      have hst := hw.st c
      refine go_iloadn1 (q := 22) dX4_manyThat_21 rfl ?_
      refine go_icmp_neN (tgt := 29) (q := 25) dX4_manyThat_22 (by decide) rfl (by omega) (by omega) (fun h2 => ?_) (fun h2 => ?_)
      · skip
        refine go_iconstN (n := 0) (q := 30) dX4_manyThat_29 rfl ?_
        refine go_iaddN (q := 31) dX4_manyThat_30 rfl ?_
        refine go_istoren2 (q := 32) dX4_manyThat_31 rfl (by decide) rfl ?_
        refine go_iincN3 (n := 1) (q := 35) dX4_manyThat_32 rfl (by decide) rfl ?_
        refine go_goto (tgt := 4) dX4_manyThat_35 (by decide) ?_
        exact ih (c + 1) (a + 0) (by omega) (by omega) (by rw [sm_s, if_neg h2, ha])
      · skip
        refine go_iconstN (n := 1) (q := 26) dX4_manyThat_25 rfl ?_
        refine go_goto (tgt := 30) dX4_manyThat_26 (by decide) ?_
        refine go_iaddN (q := 31) dX4_manyThat_30 rfl ?_
        refine go_istoren2 (q := 32) dX4_manyThat_31 rfl (by decide) rfl ?_
        refine go_iincN3 (n := 1) (q := 35) dX4_manyThat_32 rfl (by decide) rfl ?_
        refine go_goto (tgt := 4) dX4_manyThat_35 (by decide) ?_
        exact ih (c + 1) (a + 1) (by omega) (by omega) (by rw [sm_s, if_pos h2, ha])

set_option maxHeartbeats 4000000 in
set_option maxRecDepth 100000 in
theorem r_manyThat {S : St} {N : Nat → Nat → Int64} {X : St} {Y : Nat → Int64} {Q : Option Value → AH → Prop} {s : Nat} (hw : WF (X 0)) (hs : s < 2 ^ 31) (hQ : Q (some (.int (nI (many (X 0) s)))) (hp S N X Y)) : Cn 3 yX4_manyThat cX4_manyThat 4 (some .int) [.ref 69, .int (nI s)] (hp S N X Y) Q := by
  refine cn_of (own := RX4) (lo := [some (.ref 69), some (.int (nI s)), none, none]) 2 rfl (by decide +kernel) rfl (Nat.le_of_ble_eq_true rfl) ?_
  refine go_iconstN (n := 0) (q := 1) dX4_manyThat_0 rfl ?_
  refine go_istoren2 (q := 2) dX4_manyThat_1 rfl (by decide) rfl ?_
  refine go_iconstN (n := 0) (q := 3) dX4_manyThat_2 rfl ?_
  refine go_istoren3 (q := 4) dX4_manyThat_3 rfl (by decide) rfl ?_
  exact r_manyThat_4 hw hs hQ (X 0 13 0 + 1) 0 0 (by omega) (by omega) rfl
