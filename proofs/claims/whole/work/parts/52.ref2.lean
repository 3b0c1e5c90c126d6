theorem addC_13 (M : Mk) (a b c s : Nat) : u2 (u2 (u2 (u2 (u2 M 13 0 (M 13 0 + 1)) 0 (M 13 0) a) 1 (M 13 0) b) 2 (M 13 0) c) 3 (M 13 0) s = addC M a b c s := by
  funext j i
  unfold addC u2
  by_cases h : j = 13 ∧ i = 0
  · rw [if_neg (by omega), if_neg (by omega), if_neg (by omega), if_neg (by omega), if_pos h, if_pos h]
  · simp only [if_neg h]
def swpN (M : Mk) (a b n : Nat) : Mk := fun j i => if j < n then M j (if i = b then a else if i = a then b else i) else M j i
theorem swpN_4 (M : Mk) (a b : Nat) : swpN M a b 4 = swp M a b := rfl
theorem swpN_0 (M : Mk) (a b : Nat) : swpN M a b 0 = M := by
  funext j i
  unfold swpN
  rw [if_neg (by omega)]
theorem swpN_s (M : Mk) (a b n : Nat) (hn : n < 4) : u2 (u2 (swpN M a b n) n a (swpN M a b n n b)) n b (swpN M a b n n a) = swpN M a b (n + 1) := by
  funext j i
  unfold u2
  by_cases h1 : j = n ∧ i = b
  · rw [if_pos h1]
    unfold swpN
    rw [if_neg (by omega), if_pos (by omega), if_pos h1.2, h1.1]
  · rw [if_neg h1]
    by_cases h2 : j = n ∧ i = a
    · rw [if_pos h2]
      unfold swpN
      rw [if_neg (by omega), if_pos (by omega), if_neg (by omega), if_pos h2.2, h2.1]
    · rw [if_neg h2]
      unfold swpN
      by_cases h3 : j < n
      · rw [if_pos h3, if_pos (show j < n + 1 by omega)]
      · rw [if_neg h3]
        by_cases h4 : j = n
        · rw [if_pos (show j < n + 1 by omega), if_neg (show ¬ i = b by omega), if_neg (show ¬ i = a by omega)]
        · rw [if_neg (show ¬ j < n + 1 by omega)]

set_option maxHeartbeats 4000000 in
set_option maxRecDepth 100000 in
theorem r_soil {S : St} {N : Nat → Nat → Int64} {X : St} {Y : Nat → Int64} {Q : Option Value → AH → Prop} {x v : Int32} (hw : WF (X 0)) (hB : ¬ (rg x 0 3 ∧ rg v 0 9) → ∀ X', Xf X X' 0 → Q (some (.int (-1000000001))) (hp S N X' Y)) (hO : ∀ i j, i ≤ 3 → j ≤ 9 → x = nI i → v = nI j → ∀ X', Xp X X' (u2 (X 0) 4 i j) → Q (some (.int (nI (X 0 4 i)))) (hp S N X' Y)) : Cn 3 yX4_soil cX4_soil 3 (some .int) [.ref 69, .int x, .int v] (hp S N X Y) Q := by
  refine cn_of (own := RX4) (lo := [some (.ref 69), some (.int x), some (.int v)]) 0 rfl (by decide +kernel) rfl (Nat.le_of_ble_eq_true rfl) ?_
  refine go_iloadn1 (q := 1) dX4_soil_0 rfl ?_
  refine go_is1_ (q := 4) dX4_soil_1 lk_X4_43 (by decide) (by decide) (Nat.le_of_ble_eq_true rfl) rfl (r_isOwner ?_)
  refine go_ifeqB (tgt := 30) (q := 7) dX4_soil_4 (by decide) rfl (fun h1 => ?_) (fun h1 => ?_)
  · skip
    refine go_aloadn0 (q := 31) dX4_soil_30 rfl ?_
    refine go_ldc (q := 33) dX4_soil_31 ko_X4_42 rfl ?_
    refine go_ix1 (q := 36) dX4_soil_33 lk_X4_57 (by decide) (by decide) (Nat.le_of_ble_eq_true rfl) rfl (r_finds (p := 0) (by decide) (by decide) ?_)
    exact go_iret dX4_soil_36 rfl (hB (fun z => h1 z.1) _ (Xf.rf 0))
  · skip
    refine go_iloadn2 (q := 8) dX4_soil_7 rfl ?_
    refine go_i2l (q := 9) dX4_soil_8 rfl ?_
    refine go_lconst (q := 10) dX4_soil_9 rfl ?_
    refine go_ldc2 (q := 13) dX4_soil_10 ko_X4_47 rfl ?_
    refine go_is3_ (q := 16) dX4_soil_13 lk_X4_49 (by decide) (by decide) (Nat.le_of_ble_eq_true rfl) rfl (r_isIn (l := 0) (m := 9) (by decide) (by decide) ?_)
    refine go_ifeqB (tgt := 30) (q := 19) dX4_soil_16 (by decide) rfl (fun h2 => ?_) (fun h2 => ?_)
    · skip
      refine go_aloadn0 (q := 31) dX4_soil_30 rfl ?_
      refine go_ldc (q := 33) dX4_soil_31 ko_X4_42 rfl ?_
      refine go_ix1 (q := 36) dX4_soil_33 lk_X4_57 (by decide) (by decide) (Nat.le_of_ble_eq_true rfl) rfl (r_finds (p := 0) (by decide) (by decide) ?_)
      exact go_iret dX4_soil_36 rfl (hB (fun z => h2 z.2) _ (Xf.rf 0))
    · skip
      obtain ⟨i, hi, rfl, -, -⟩ := rg_nat (n := 3) h1 (by omega) (by omega)
      obtain ⟨j, hj, rfl, -, -⟩ := rg_nat (n := 9) h2 (by omega) (by omega)
      refine go_aloadn0 (q := 20) dX4_soil_19 rfl ?_
      refine go_iconstN (n := 4) (q := 21) dX4_soil_20 rfl ?_
      refine go_iloadn1 (q := 22) dX4_soil_21 rfl ?_
      refine go_iaddN (q := 23) dX4_soil_22 rfl ?_
      refine go_iloadn2 (q := 24) dX4_soil_23 rfl ?_
      refine go_ix2 (q := 27) dX4_soil_24 lk_X4_53 (by decide) (by decide) (Nat.le_of_ble_eq_true rfl) rfl (r_becomes (rr_soil (by omega)) ?_)
      refine go_goto (tgt := 36) dX4_soil_27 (by decide) ?_
      exact go_iret dX4_soil_36 rfl (hO i j hi hj rfl rfl _ (Xc.rf.u 4 i j).p)

set_option maxHeartbeats 4000000 in
set_option maxRecDepth 100000 in
theorem r_price {S : St} {N : Nat → Nat → Int64} {X : St} {Y : Nat → Int64} {Q : Option Value → AH → Prop} {x v : Int32} (hw : WF (X 0)) (hB : ¬ (rg x 0 11 ∧ rg v 0 99) → ∀ X', Xf X X' 0 → Q (some (.int (-1000000001))) (hp S N X' Y)) (hO : ∀ i j, i ≤ 11 → j ≤ 99 → x = nI i → v = nI j → ∀ X', Xp X X' (u2 (X 0) 5 i j) → Q (some (.int (nI (X 0 5 i)))) (hp S N X' Y)) : Cn 3 yX4_price cX4_price 3 (some .int) [.ref 69, .int x, .int v] (hp S N X Y) Q := by
  refine cn_of (own := RX4) (lo := [some (.ref 69), some (.int x), some (.int v)]) 0 rfl (by decide +kernel) rfl (Nat.le_of_ble_eq_true rfl) ?_
  refine go_iloadn1 (q := 1) dX4_price_0 rfl ?_
  refine go_i2l (q := 2) dX4_price_1 rfl ?_
  refine go_lconst (q := 3) dX4_price_2 rfl ?_
  refine go_ldc2 (q := 6) dX4_price_3 ko_X4_61 rfl ?_
  refine go_is3_ (q := 9) dX4_price_6 lk_X4_49 (by decide) (by decide) (Nat.le_of_ble_eq_true rfl) rfl (r_isIn (l := 0) (m := 11) (by decide) (by decide) ?_)
  refine go_ifeqB (tgt := 36) (q := 12) dX4_price_9 (by decide) rfl (fun h1 => ?_) (fun h1 => ?_)
  · skip
    refine go_aloadn0 (q := 37) dX4_price_36 rfl ?_
    refine go_ldc (q := 39) dX4_price_37 ko_X4_42 rfl ?_
    refine go_ix1 (q := 42) dX4_price_39 lk_X4_57 (by decide) (by decide) (Nat.le_of_ble_eq_true rfl) rfl (r_finds (p := 0) (by decide) (by decide) ?_)
    exact go_iret dX4_price_42 rfl (hB (fun z => h1 z.1) _ (Xf.rf 0))
  · skip
    refine go_iloadn2 (q := 13) dX4_price_12 rfl ?_
    refine go_i2l (q := 14) dX4_price_13 rfl ?_
    refine go_lconst (q := 15) dX4_price_14 rfl ?_
    refine go_ldc2 (q := 18) dX4_price_15 ko_X4_63 rfl ?_
    refine go_is3_ (q := 21) dX4_price_18 lk_X4_49 (by decide) (by decide) (Nat.le_of_ble_eq_true rfl) rfl (r_isIn (l := 0) (m := 99) (by decide) (by decide) ?_)
    refine go_ifeqB (tgt := 36) (q := 24) dX4_price_21 (by decide) rfl (fun h2 => ?_) (fun h2 => ?_)
    · skip
      refine go_aloadn0 (q := 37) dX4_price_36 rfl ?_
      refine go_ldc (q := 39) dX4_price_37 ko_X4_42 rfl ?_
      refine go_ix1 (q := 42) dX4_price_39 lk_X4_57 (by decide) (by decide) (Nat.le_of_ble_eq_true rfl) rfl (r_finds (p := 0) (by decide) (by decide) ?_)
      exact go_iret dX4_price_42 rfl (hB (fun z => h2 z.2) _ (Xf.rf 0))
    · skip
      obtain ⟨i, hi, rfl, -, -⟩ := rg_nat (n := 11) h1 (by omega) (by omega)
      obtain ⟨j, hj, rfl, -, -⟩ := rg_nat (n := 99) h2 (by omega) (by omega)
      refine go_aloadn0 (q := 25) dX4_price_24 rfl ?_
      refine go_bipushN (v := 8) (q := 27) dX4_price_25 (by decide) rfl ?_
      refine go_iloadn1 (q := 28) dX4_price_27 rfl ?_
      refine go_iaddN (q := 29) dX4_price_28 rfl ?_
      refine go_iloadn2 (q := 30) dX4_price_29 rfl ?_
      refine go_ix2 (q := 33) dX4_price_30 lk_X4_53 (by decide) (by decide) (Nat.le_of_ble_eq_true rfl) rfl (r_becomes (rr_price (by omega)) ?_)
      refine go_goto (tgt := 42) dX4_price_33 (by decide) ?_
      exact go_iret dX4_price_42 rfl (hO i j hi hj rfl rfl _ (Xc.rf.u 5 i j).p)

set_option maxHeartbeats 4000000 in
set_option maxRecDepth 100000 in
theorem r_comes {S : St} {N : Nat → Nat → Int64} {X : St} {Y : Nat → Int64} {Q : Option Value → AH → Prop} {a b c : Nat} (hn : X 0 13 0 < 12) (hO : ∀ X', Xc X X' (addC (X 0) a b c 0) → Q (some (.int (nI (X 0 13 0)))) (hp S N X' Y)) : Cn 2 yX4_comes cX4_comes 5 (some .int) [.ref 69, .int (nI a), .int (nI b), .int (nI c)] (hp S N X Y) Q := by
  refine cn_of (own := RX4) (lo := [some (.ref 69), some (.int (nI a)), some (.int (nI b)), some (.int (nI c)), none]) 1 rfl (by decide +kernel) rfl (Nat.le_of_ble_eq_true rfl) ?_
  refine go_aloadn0 (q := 1) dX4_comes_0 rfl ?_
  refine go_xg (q := 4) dX4_comes_1 fl_X4_7 rfl rfl ?_
  refine go_iconstN (n := 0) (q := 5) dX4_comes_4 rfl ?_
  refine go_rld (q := 6) dX4_comes_5 (rr_13 (f := 0) (by decide)) rfl ?_
  refine go_istore4 (q := 8) dX4_comes_6 rfl (by decide) rfl ?_
  refine go_aloadn0 (q := 9) dX4_comes_8 rfl ?_
  refine go_xg (q := 12) dX4_comes_9 fl_X4_7 rfl rfl ?_
  refine go_iconstN (n := 0) (q := 13) dX4_comes_12 rfl ?_
  refine go_dup2 (q := 14) dX4_comes_13 rfl rfl rfl ?_
  refine go_rld (q := 15) dX4_comes_14 (rr_13 (f := 0) (by decide)) rfl ?_
  refine go_iconstN (n := 1) (q := 16) dX4_comes_15 rfl ?_
  refine go_iaddN (q := 17) dX4_comes_16 rfl ?_
  refine go_rst (q := 18) dX4_comes_17 (rr_13 (f := 0) (by decide)) rfl ?_
  refine go_aloadn0 (q := 19) dX4_comes_18 rfl ?_
  refine go_iload4 (q := 21) dX4_comes_19 rfl ?_
  refine go_iconstN (n := 0) (q := 22) dX4_comes_21 rfl ?_
  refine go_iloadn1 (q := 23) dX4_comes_22 rfl ?_
  refine go_ix3 (q := 26) dX4_comes_23 lk_X4_65 (by decide) (by decide) (Nat.le_of_ble_eq_true rfl) rfl (r_puts hn (by decide) ?_)
  refine go_aloadn0 (q := 27) dX4_comes_26 rfl ?_
  refine go_iload4 (q := 29) dX4_comes_27 rfl ?_
  refine go_iconstN (n := 1) (q := 30) dX4_comes_29 rfl ?_
  refine go_iloadn2 (q := 31) dX4_comes_30 rfl ?_
  refine go_ix3 (q := 34) dX4_comes_31 lk_X4_65 (by decide) (by decide) (Nat.le_of_ble_eq_true rfl) rfl (r_puts hn (by decide) ?_)
  refine go_aloadn0 (q := 35) dX4_comes_34 rfl ?_
  refine go_iload4 (q := 37) dX4_comes_35 rfl ?_
  refine go_iconstN (n := 2) (q := 38) dX4_comes_37 rfl ?_
  refine go_iloadn3 (q := 39) dX4_comes_38 rfl ?_
  refine go_ix3 (q := 42) dX4_comes_39 lk_X4_65 (by decide) (by decide) (Nat.le_of_ble_eq_true rfl) rfl (r_puts hn (by decide) ?_)
  refine go_aloadn0 (q := 43) dX4_comes_42 rfl ?_
  refine go_iload4 (q := 45) dX4_comes_43 rfl ?_
  refine go_iconstN (n := 3) (q := 46) dX4_comes_45 rfl ?_
  refine go_iconstN (n := 0) (q := 47) dX4_comes_46 rfl ?_
  refine go_ix3 (q := 50) dX4_comes_47 lk_X4_65 (by decide) (by decide) (Nat.le_of_ble_eq_true rfl) rfl (r_puts hn (by decide) ?_)
  refine go_iload4 (q := 52) dX4_comes_50 rfl ?_
  exact go_iret dX4_comes_52 rfl (hO _ (((((Xc.rf.u 13 0 (X 0 13 0 + 1)).u 0 _ a).u 1 _ b).u 2 _ c).u 3 _ 0 |>.to (addC_13 _ _ _ _ _)))

set_option maxHeartbeats 4000000 in
set_option maxRecDepth 100000 in
theorem r_coin {S : St} {N : Nat → Nat → Int64} {X : St} {Y : Nat → Int64} {Q : Option Value → AH → Prop} {x y v : Int32} (hw : WF (X 0)) (hB : ¬ (rg x 0 5 ∧ rg y 0 3 ∧ rg v 0 99) → ∀ X', Xf X X' 0 → Q (some (.int (-1000000001))) (hp S N X' Y)) (hF : (rg x 0 5 ∧ rg y 0 3 ∧ rg v 0 99) → ¬ X 0 13 0 < 12 → ∀ X', Xf X X' 1 → Q (some (.int (-1000000002))) (hp S N X' Y)) (hO : X 0 13 0 < 12 → ∀ a b c, a ≤ 5 → b ≤ 3 → c ≤ 99 → x = nI a → y = nI b → v = nI c → ∀ X', Xp X X' (addC (X 0) a b c 0) → Q (some (.int (nI (X 0 13 0)))) (hp S N X' Y)) : Cn 3 yX4_coin cX4_coin 4 (some .int) [.ref 69, .int x, .int y, .int v] (hp S N X Y) Q := by
  refine cn_of (own := RX4) (lo := [some (.ref 69), some (.int x), some (.int y), some (.int v)]) 0 rfl (by decide +kernel) rfl (Nat.le_of_ble_eq_true rfl) ?_
  have hco := hw.co
  refine go_iloadn1 (q := 1) dX4_coin_0 rfl ?_
  refine go_i2l (q := 2) dX4_coin_1 rfl ?_
  refine go_lconst (q := 3) dX4_coin_2 rfl ?_
  refine go_ldc2 (q := 6) dX4_coin_3 ko_X4_69 rfl ?_
  refine go_is3_ (q := 9) dX4_coin_6 lk_X4_49 (by decide) (by decide) (Nat.le_of_ble_eq_true rfl) rfl (r_isIn (l := 0) (m := 5) (by decide) (by decide) ?_)
  refine go_ifeqB (tgt := 31) (q := 12) dX4_coin_9 (by decide) rfl (fun h1 => ?_) (fun h1 => ?_)
  · skip
    refine go_aloadn0 (q := 32) dX4_coin_31 rfl ?_
    refine go_ldc (q := 34) dX4_coin_32 ko_X4_42 rfl ?_
    refine go_ix1 (q := 37) dX4_coin_34 lk_X4_57 (by decide) (by decide) (Nat.le_of_ble_eq_true rfl) rfl (r_finds (p := 0) (by decide) (by decide) ?_)
    exact go_iret dX4_coin_37 rfl (hB (fun z => h1 z.1) _ (Xf.rf 0))
  · skip
    refine go_iloadn2 (q := 13) dX4_coin_12 rfl ?_
    refine go_is1_ (q := 16) dX4_coin_13 lk_X4_43 (by decide) (by decide) (Nat.le_of_ble_eq_true rfl) rfl (r_isOwner ?_)
    refine go_ifeqB (tgt := 31) (q := 19) dX4_coin_16 (by decide) rfl (fun h2 => ?_) (fun h2 => ?_)
    · skip
      refine go_aloadn0 (q := 32) dX4_coin_31 rfl ?_
      refine go_ldc (q := 34) dX4_coin_32 ko_X4_42 rfl ?_
      refine go_ix1 (q := 37) dX4_coin_34 lk_X4_57 (by decide) (by decide) (Nat.le_of_ble_eq_true rfl) rfl (r_finds (p := 0) (by decide) (by decide) ?_)
      exact go_iret dX4_coin_37 rfl (hB (fun z => h2 z.2.1) _ (Xf.rf 0))
    · skip
      refine go_iloadn3 (q := 20) dX4_coin_19 rfl ?_
      refine go_i2l (q := 21) dX4_coin_20 rfl ?_
      refine go_lconst (q := 22) dX4_coin_21 rfl ?_
      refine go_ldc2 (q := 25) dX4_coin_22 ko_X4_63 rfl ?_
      refine go_is3_ (q := 28) dX4_coin_25 lk_X4_49 (by decide) (by decide) (Nat.le_of_ble_eq_true rfl) rfl (r_isIn (l := 0) (m := 99) (by decide) (by decide) ?_)
      refine go_ifneB (tgt := 38) (q := 31) dX4_coin_28 (by decide) rfl (fun h3 => ?_) (fun h3 => ?_)
      · skip
        refine go_aloadn0 (q := 39) dX4_coin_38 rfl ?_
        refine go_xg (q := 42) dX4_coin_39 fl_X4_7 rfl rfl ?_
        refine go_iconstN (n := 0) (q := 43) dX4_coin_42 rfl ?_
        refine go_rld (q := 44) dX4_coin_43 (rr_13 (f := 0) (by decide)) rfl ?_
        refine go_bipushN (v := 12) (q := 46) dX4_coin_44 (by decide) rfl ?_
        refine go_icmp_neN (tgt := 58) (q := 49) dX4_coin_46 (by decide) rfl (by omega) (by omega) (fun h4 => ?_) (fun h4 => ?_)
        · skip
          have h123 := And.intro h1 (And.intro h2 h3)
          obtain ⟨a, ha, rfl, -, -⟩ := rg_nat (n := 5) h1 (by omega) (by omega)
          obtain ⟨b, hb, rfl, -, -⟩ := rg_nat (n := 3) h2 (by omega) (by omega)
          obtain ⟨c, hc, rfl, -, -⟩ := rg_nat (n := 99) h3 (by omega) (by omega)
          refine go_aloadn0 (q := 59) dX4_coin_58 rfl ?_
          refine go_iloadn1 (q := 60) dX4_coin_59 rfl ?_
          refine go_iloadn2 (q := 61) dX4_coin_60 rfl ?_
          refine go_iloadn3 (q := 62) dX4_coin_61 rfl ?_
          refine go_ix3 (q := 65) dX4_coin_62 lk_X4_72 (by decide) (by decide) (Nat.le_of_ble_eq_true rfl) rfl (r_comes (by omega) (fun X1 g1 => ?_))
          exact go_iret dX4_coin_65 rfl (hO (by omega) a b c ha hb hc rfl rfl rfl _ g1.p)
        · skip
          refine go_aloadn0 (q := 50) dX4_coin_49 rfl ?_
          refine go_ldc (q := 52) dX4_coin_50 ko_X4_71 rfl ?_
          refine go_ix1 (q := 55) dX4_coin_52 lk_X4_57 (by decide) (by decide) (Nat.le_of_ble_eq_true rfl) rfl (r_finds (p := 1) (by decide) (by decide) ?_)
          refine go_goto (tgt := 65) dX4_coin_55 (by decide) ?_
          exact go_iret dX4_coin_65 rfl (hF ⟨h1, h2, h3⟩ (by omega) _ (Xf.rf 1))
      · skip
        refine go_aloadn0 (q := 32) dX4_coin_31 rfl ?_
        refine go_ldc (q := 34) dX4_coin_32 ko_X4_42 rfl ?_
        refine go_ix1 (q := 37) dX4_coin_34 lk_X4_57 (by decide) (by decide) (Nat.le_of_ble_eq_true rfl) rfl (r_finds (p := 0) (by decide) (by decide) ?_)
        exact go_iret dX4_coin_37 rfl (hB (fun z => h3 z.2.2) _ (Xf.rf 0))

set_option maxHeartbeats 4000000 in
set_option maxRecDepth 100000 in
theorem r_of {S : St} {N : Nat → Nat → Int64} {X : St} {Y : Nat → Int64} {Q : Option Value → AH → Prop} {x w : Int32} (hw : WF (X 0)) (hB : ¬ (ic (X 0) x ∧ rg w 0 7) → ∀ X', Xf X X' 0 → Q (some (.int (-1000000001))) (hp S N X' Y)) (hO : ∀ c j, c < X 0 13 0 → j ≤ 7 → x = nI c → w = nI j → Q (some (.int (nI (ofV (X 0) c j)))) (hp S N X Y)) : Cn 4 yX4_of cX4_of 3 (some .int) [.ref 69, .int x, .int w] (hp S N X Y) Q := by
  refine cn_of (own := RX4) (lo := [some (.ref 69), some (.int x), some (.int w)]) 0 rfl (by decide +kernel) rfl (Nat.le_of_ble_eq_true rfl) ?_
  refine go_aloadn0 (q := 1) dX4_of_0 rfl ?_
  refine go_iloadn1 (q := 2) dX4_of_1 rfl ?_
  refine go_ix1 (q := 5) dX4_of_2 lk_X4_87 (by decide) (by decide) (Nat.le_of_ble_eq_true rfl) rfl (r_isCoin hw ?_)
  refine go_ifeqB (tgt := 20) (q := 8) dX4_of_5 (by decide) rfl (fun h1 => ?_) (fun h1 => ?_)
  · skip
    refine go_aloadn0 (q := 21) dX4_of_20 rfl ?_
    refine go_ldc (q := 23) dX4_of_21 ko_X4_42 rfl ?_
    refine go_ix1 (q := 26) dX4_of_23 lk_X4_57 (by decide) (by decide) (Nat.le_of_ble_eq_true rfl) rfl (r_finds (p := 0) (by decide) (by decide) ?_)
    exact go_iret dX4_of_26 rfl (hB (fun z => h1 z.1) _ (Xf.rf 0))
  · skip
    refine go_iloadn2 (q := 9) dX4_of_8 rfl ?_
    refine go_i2l (q := 10) dX4_of_9 rfl ?_
    refine go_lconst (q := 11) dX4_of_10 rfl ?_
    refine go_ldc2 (q := 14) dX4_of_11 ko_X4_90 rfl ?_
    refine go_is3_ (q := 17) dX4_of_14 lk_X4_49 (by decide) (by decide) (Nat.le_of_ble_eq_true rfl) rfl (r_isIn (l := 0) (m := 7) (by decide) (by decide) ?_)
    refine go_ifneB (tgt := 27) (q := 20) dX4_of_17 (by decide) rfl (fun h2 => ?_) (fun h2 => ?_)
    · skip
      obtain ⟨c, hc, hc12, rfl⟩ := ic_nat h1 hw
      obtain ⟨j, hj, rfl, -, -⟩ := rg_nat (n := 7) h2 (by omega) (by omega)
      refine go_iloadn2 (q := 28) dX4_of_27 rfl ?_
      rcases (show j = 0 ∨ j = 1 ∨ j = 2 ∨ j = 3 ∨ j = 4 ∨ j = 5 ∨ j = 6 ∨ j = 7 by omega) with rfl | rfl | rfl | rfl | rfl | rfl | rfl | rfl
      · skip
        refine go_tableOut (tgt := 96) dX4_of_28 (by decide) (by decide) ?_
        refine go_aloadn0 (q := 97) dX4_of_96 rfl ?_
        refine go_iloadn1 (q := 98) dX4_of_97 rfl ?_
        refine go_iloadn2 (q := 99) dX4_of_98 rfl ?_
        refine go_ix2 (q := 102) dX4_of_99 lk_X4_84 (by decide) (by decide) (Nat.le_of_ble_eq_true rfl) rfl (r_is hc12 (by decide) ?_)
        exact go_iretN dX4_of_102 rfl (show ofV (X 0) c 0 = X 0 0 c by rfl) (hO c 0 hc (by decide) rfl rfl)
      · skip
        refine go_tableOut (tgt := 96) dX4_of_28 (by decide) (by decide) ?_
        refine go_aloadn0 (q := 97) dX4_of_96 rfl ?_
        refine go_iloadn1 (q := 98) dX4_of_97 rfl ?_
        refine go_iloadn2 (q := 99) dX4_of_98 rfl ?_
        refine go_ix2 (q := 102) dX4_of_99 lk_X4_84 (by decide) (by decide) (Nat.le_of_ble_eq_true rfl) rfl (r_is hc12 (by decide) ?_)
        exact go_iretN dX4_of_102 rfl (show ofV (X 0) c 1 = X 0 1 c by rfl) (hO c 1 hc (by decide) rfl rfl)
      · skip
        refine go_tableOut (tgt := 96) dX4_of_28 (by decide) (by decide) ?_
        refine go_aloadn0 (q := 97) dX4_of_96 rfl ?_
        refine go_iloadn1 (q := 98) dX4_of_97 rfl ?_
        refine go_iloadn2 (q := 99) dX4_of_98 rfl ?_
        refine go_ix2 (q := 102) dX4_of_99 lk_X4_84 (by decide) (by decide) (Nat.le_of_ble_eq_true rfl) rfl (r_is hc12 (by decide) ?_)
        exact go_iretN dX4_of_102 rfl (show ofV (X 0) c 2 = X 0 2 c by rfl) (hO c 2 hc (by decide) rfl rfl)
      · skip
        refine go_tableOut (tgt := 96) dX4_of_28 (by decide) (by decide) ?_
        refine go_aloadn0 (q := 97) dX4_of_96 rfl ?_
        refine go_iloadn1 (q := 98) dX4_of_97 rfl ?_
        refine go_iloadn2 (q := 99) dX4_of_98 rfl ?_
        refine go_ix2 (q := 102) dX4_of_99 lk_X4_84 (by decide) (by decide) (Nat.le_of_ble_eq_true rfl) rfl (r_is hc12 (by decide) ?_)
        exact go_iretN dX4_of_102 rfl (show ofV (X 0) c 3 = X 0 3 c by rfl) (hO c 3 hc (by decide) rfl rfl)
      · skip
        refine go_tableIn (off := 32) (tgt := 60) dX4_of_28 (by decide) (by decide) (by decide) (by decide) ?_
        refine go_aloadn0 (q := 61) dX4_of_60 rfl ?_
        refine go_iloadn1 (q := 62) dX4_of_61 rfl ?_
        refine go_ix1 (q := 65) dX4_of_62 lk_X4_92 (by decide) (by decide) (Nat.le_of_ble_eq_true rfl) rfl (r_worth hw hc12 ?_)
        exact go_iretN dX4_of_65 rfl (show ofV (X 0) c 4 = wrt (X 0) c by rfl) (hO c 4 hc (by decide) rfl rfl)
      · skip
        refine go_tableIn (off := 38) (tgt := 66) dX4_of_28 (by decide) (by decide) (by decide) (by decide) ?_
        refine go_aloadn0 (q := 67) dX4_of_66 rfl ?_
        refine go_iloadn1 (q := 68) dX4_of_67 rfl ?_
        refine go_ix1 (q := 71) dX4_of_68 lk_X4_95 (by decide) (by decide) (Nat.le_of_ble_eq_true rfl) rfl (r_shrinks hw hc12 ?_)
        exact go_iretN dX4_of_71 rfl (show ofV (X 0) c 5 = shr (X 0 0 c) (sea (X 0)) by rfl) (hO c 5 hc (by decide) rfl rfl)
      · skip
        refine go_tableIn (off := 44) (tgt := 72) dX4_of_28 (by decide) (by decide) (by decide) (by decide) ?_
        refine go_aloadn0 (q := 73) dX4_of_72 rfl ?_
        refine go_iloadn1 (q := 74) dX4_of_73 rfl ?_
        refine go_ix1 (q := 77) dX4_of_74 lk_X4_98 (by decide) (by decide) (Nat.le_of_ble_eq_true rfl) rfl (r_yields hw hc12 ?_)
        exact go_iretN dX4_of_77 rfl (show ofV (X 0) c 6 = yld (X 0 0 c) (X 0 4 (X 0 1 c)) by rfl) (hO c 6 hc (by decide) rfl rfl)
      · skip
        refine go_tableIn (off := 50) (tgt := 78) dX4_of_28 (by decide) (by decide) (by decide) (by decide) ?_
        refine go_aloadn0 (q := 79) dX4_of_78 rfl ?_
        refine go_iloadn1 (q := 80) dX4_of_79 rfl ?_
        refine go_iconstN (n := 0) (q := 81) dX4_of_80 rfl ?_
        refine go_ix2 (q := 84) dX4_of_81 lk_X4_84 (by decide) (by decide) (Nat.le_of_ble_eq_true rfl) rfl (r_is hc12 (by decide) ?_)
        refine go_is1_ (q := 87) dX4_of_84 lk_X4_101 (by decide) (by decide) (Nat.le_of_ble_eq_true rfl) rfl (r_isBlue (hw.kd c) ?_)
        refine go_ifeqB (tgt := 94) (q := 90) dX4_of_87 (by decide) rfl (fun h3 => ?_) (fun h3 => ?_)
        · skip
          refine go_iconstN (n := 1) (q := 95) dX4_of_94 rfl ?_
          exact go_iretN dX4_of_95 rfl (show ofV (X 0) c 7 = 1 by exact if_neg h3) (hO c 7 hc (by decide) rfl rfl)
        · skip
          refine go_iconstN (n := 0) (q := 91) dX4_of_90 rfl ?_
          refine go_goto (tgt := 95) dX4_of_91 (by decide) ?_
          exact go_iretN dX4_of_95 rfl (show ofV (X 0) c 7 = 0 by exact if_pos h3) (hO c 7 hc (by decide) rfl rfl)
    · skip
      refine go_aloadn0 (q := 21) dX4_of_20 rfl ?_
      refine go_ldc (q := 23) dX4_of_21 ko_X4_42 rfl ?_
      refine go_ix1 (q := 26) dX4_of_23 lk_X4_57 (by decide) (by decide) (Nat.le_of_ble_eq_true rfl) rfl (r_finds (p := 0) (by decide) (by decide) ?_)
      exact go_iret dX4_of_26 rfl (hB (fun z => h2 z.2) _ (Xf.rf 0))

set_option maxHeartbeats 4000000 in
set_option maxRecDepth 100000 in
theorem r_turn {S : St} {N : Nat → Nat → Int64} {X : St} {Y : Nat → Int64} {Q : Option Value → AH → Prop} {x v : Int32} (hw : WF (X 0)) (hB : ¬ (ic (X 0) x ∧ rg v 0 5) → ∀ X', Xf X X' 0 → Q (some (.int (-1000000001))) (hp S N X' Y)) (hO : ∀ c j, c < X 0 13 0 → j ≤ 5 → x = nI c → v = nI j → ∀ X', Xp X X' (u2 (X 0) 0 c j) → Q (some (.int (nI (X 0 0 c)))) (hp S N X' Y)) : Cn 3 yX4_turn cX4_turn 3 (some .int) [.ref 69, .int x, .int v] (hp S N X Y) Q := by
  refine cn_of (own := RX4) (lo := [some (.ref 69), some (.int x), some (.int v)]) 0 rfl (by decide +kernel) rfl (Nat.le_of_ble_eq_true rfl) ?_
  refine go_aloadn0 (q := 1) dX4_turn_0 rfl ?_
  refine go_iloadn1 (q := 2) dX4_turn_1 rfl ?_
  refine go_ix1 (q := 5) dX4_turn_2 lk_X4_87 (by decide) (by decide) (Nat.le_of_ble_eq_true rfl) rfl (r_isCoin hw ?_)
  refine go_ifeqB (tgt := 34) (q := 8) dX4_turn_5 (by decide) rfl (fun h1 => ?_) (fun h1 => ?_)
  · skip
    refine go_aloadn0 (q := 35) dX4_turn_34 rfl ?_
    refine go_ldc (q := 37) dX4_turn_35 ko_X4_42 rfl ?_
    refine go_ix1 (q := 40) dX4_turn_37 lk_X4_57 (by decide) (by decide) (Nat.le_of_ble_eq_true rfl) rfl (r_finds (p := 0) (by decide) (by decide) ?_)
    exact go_iret dX4_turn_40 rfl (hB (fun z => h1 z.1) _ (Xf.rf 0))
  · skip
    refine go_iloadn2 (q := 9) dX4_turn_8 rfl ?_
    refine go_i2l (q := 10) dX4_turn_9 rfl ?_
    refine go_lconst (q := 11) dX4_turn_10 rfl ?_
    refine go_ldc2 (q := 14) dX4_turn_11 ko_X4_69 rfl ?_
    refine go_is3_ (q := 17) dX4_turn_14 lk_X4_49 (by decide) (by decide) (Nat.le_of_ble_eq_true rfl) rfl (r_isIn (l := 0) (m := 5) (by decide) (by decide) ?_)
    refine go_ifeqB (tgt := 34) (q := 20) dX4_turn_17 (by decide) rfl (fun h2 => ?_) (fun h2 => ?_)
    · skip
      refine go_aloadn0 (q := 35) dX4_turn_34 rfl ?_
      refine go_ldc (q := 37) dX4_turn_35 ko_X4_42 rfl ?_
      refine go_ix1 (q := 40) dX4_turn_37 lk_X4_57 (by decide) (by decide) (Nat.le_of_ble_eq_true rfl) rfl (r_finds (p := 0) (by decide) (by decide) ?_)
      exact go_iret dX4_turn_40 rfl (hB (fun z => h2 z.2) _ (Xf.rf 0))
    · skip
      obtain ⟨c, hc, hc12, rfl⟩ := ic_nat h1 hw
      obtain ⟨j, hj, rfl, -, -⟩ := rg_nat (n := 5) h2 (by omega) (by omega)
      refine go_aloadn0 (q := 21) dX4_turn_20 rfl ?_
      refine go_bipushN (v := 20) (q := 23) dX4_turn_21 (by decide) rfl ?_
      refine go_iconstN (n := 4) (q := 24) dX4_turn_23 rfl ?_
      refine go_iloadn1 (q := 25) dX4_turn_24 rfl ?_
      refine go_imulN (q := 26) dX4_turn_25 rfl ?_
      refine go_iaddN (q := 27) dX4_turn_26 rfl ?_
      refine go_iloadn2 (q := 28) dX4_turn_27 rfl ?_
      refine go_ix2 (q := 31) dX4_turn_28 lk_X4_53 (by decide) (by decide) (Nat.le_of_ble_eq_true rfl) rfl (r_becomes (rr_coin (w := 0) hc12 (by decide)) ?_)
      refine go_goto (tgt := 40) dX4_turn_31 (by decide) ?_
      exact go_iret dX4_turn_40 rfl (hO c j hc hj rfl rfl _ (Xc.rf.u 0 c j).p)

set_option maxHeartbeats 4000000 in
set_option maxRecDepth 100000 in
theorem r_as {S : St} {N : Nat → Nat → Int64} {X : St} {Y : Nat → Int64} {Q : Option Value → AH → Prop} {x v : Int32} (hw : WF (X 0)) (hB : ¬ (ic (X 0) x ∧ rg v 0 5) → ∀ X', Xf X X' 0 → Q (some (.int (-1000000001))) (hp S N X' Y)) (hK : ∀ c j, c < X 0 13 0 → j ≤ 5 → x = nI c → v = nI j → ¬ isU (X 0 0 c) j → ∀ X', Xf X X' 2 → Q (some (.int (-1000000003))) (hp S N X' Y)) (hO : ∀ c j, c < X 0 13 0 → j ≤ 5 → x = nI c → v = nI j → isU (X 0 0 c) j → Q (some (.int (nI (X 0 2 c)))) (hp S N X Y)) : Cn 3 yX4_as cX4_as 3 (some .int) [.ref 69, .int x, .int v] (hp S N X Y) Q := by
  refine cn_of (own := RX4) (lo := [some (.ref 69), some (.int x), some (.int v)]) 0 rfl (by decide +kernel) rfl (Nat.le_of_ble_eq_true rfl) ?_
  refine go_aloadn0 (q := 1) dX4_as_0 rfl ?_
  refine go_iloadn1 (q := 2) dX4_as_1 rfl ?_
  refine go_ix1 (q := 5) dX4_as_2 lk_X4_87 (by decide) (by decide) (Nat.le_of_ble_eq_true rfl) rfl (r_isCoin hw ?_)
  refine go_ifeqB (tgt := 20) (q := 8) dX4_as_5 (by decide) rfl (fun h1 => ?_) (fun h1 => ?_)
  · skip
    refine go_aloadn0 (q := 21) dX4_as_20 rfl ?_
    refine go_ldc (q := 23) dX4_as_21 ko_X4_42 rfl ?_
    refine go_ix1 (q := 26) dX4_as_23 lk_X4_57 (by decide) (by decide) (Nat.le_of_ble_eq_true rfl) rfl (r_finds (p := 0) (by decide) (by decide) ?_)
    exact go_iret dX4_as_26 rfl (hB (fun z => h1 z.1) _ (Xf.rf 0))
  · skip
    refine go_iloadn2 (q := 9) dX4_as_8 rfl ?_
    refine go_i2l (q := 10) dX4_as_9 rfl ?_
    refine go_lconst (q := 11) dX4_as_10 rfl ?_
    refine go_ldc2 (q := 14) dX4_as_11 ko_X4_69 rfl ?_
    refine go_is3_ (q := 17) dX4_as_14 lk_X4_49 (by decide) (by decide) (Nat.le_of_ble_eq_true rfl) rfl (r_isIn (l := 0) (m := 5) (by decide) (by decide) ?_)
    refine go_ifneB (tgt := 27) (q := 20) dX4_as_17 (by decide) rfl (fun h2 => ?_) (fun h2 => ?_)
    · skip
      obtain ⟨c, hc, hc12, rfl⟩ := ic_nat h1 hw
      obtain ⟨j, hj, rfl, -, -⟩ := rg_nat (n := 5) h2 (by omega) (by omega)
      refine go_aloadn0 (q := 28) dX4_as_27 rfl ?_
      refine go_iloadn1 (q := 29) dX4_as_28 rfl ?_
      refine go_iconstN (n := 0) (q := 30) dX4_as_29 rfl ?_
      refine go_ix2 (q := 33) dX4_as_30 lk_X4_84 (by decide) (by decide) (Nat.le_of_ble_eq_true rfl) rfl (r_is hc12 (by decide) ?_)
      refine go_iloadn2 (q := 34) dX4_as_33 rfl ?_
      refine go_is2_ (q := 37) dX4_as_34 lk_X4_106 (by decide) (by decide) (Nat.le_of_ble_eq_true rfl) rfl (r_isUnder (hw.kd c) hj ?_)
      refine go_ifeqB (tgt := 49) (q := 40) dX4_as_37 (by decide) rfl (fun h3 => ?_) (fun h3 => ?_)
      · skip
        refine go_aloadn0 (q := 50) dX4_as_49 rfl ?_
        refine go_ldc (q := 52) dX4_as_50 ko_X4_110 rfl ?_
        refine go_ix1 (q := 55) dX4_as_52 lk_X4_57 (by decide) (by decide) (Nat.le_of_ble_eq_true rfl) rfl (r_finds (p := 2) (by decide) (by decide) ?_)
        exact go_iret dX4_as_55 rfl (hK c j hc hj rfl rfl h3 _ (Xf.rf 2))
      · skip
        refine go_aloadn0 (q := 41) dX4_as_40 rfl ?_
        refine go_iloadn1 (q := 42) dX4_as_41 rfl ?_
        refine go_iconstN (n := 2) (q := 43) dX4_as_42 rfl ?_
        refine go_ix2 (q := 46) dX4_as_43 lk_X4_84 (by decide) (by decide) (Nat.le_of_ble_eq_true rfl) rfl (r_is hc12 (by decide) ?_)
        refine go_goto (tgt := 55) dX4_as_46 (by decide) ?_
        exact go_iret dX4_as_55 rfl (hO c j hc hj rfl rfl h3)
    · skip
      refine go_aloadn0 (q := 21) dX4_as_20 rfl ?_
      refine go_ldc (q := 23) dX4_as_21 ko_X4_42 rfl ?_
      refine go_ix1 (q := 26) dX4_as_23 lk_X4_57 (by decide) (by decide) (Nat.le_of_ble_eq_true rfl) rfl (r_finds (p := 0) (by decide) (by decide) ?_)
      exact go_iret dX4_as_26 rfl (hB (fun z => h2 z.2) _ (Xf.rf 0))

set_option maxHeartbeats 4000000 in
set_option maxRecDepth 100000 in
theorem r_set_20_1 {S : St} {N : Nat → Nat → Int64} {X : St} {Y : Nat → Int64} {Q : Option Value → AH → Prop} {c : Nat} {v : Int32} (hc : c < X 0 13 0) (hc12 : c < 12) (hB : ¬ (ic (X 0) (nI c) ∧ rg (nI 1) 1 3 ∧ rg v 0 (if nI 1 = nI 1 then 3 else if nI 1 = nI 2 then 99 else 2)) → ∀ X', Xf X X' 0 → Q (some (.int (-1000000001))) (hp S N X' Y)) (hO : ∀ c2 j i, c2 < X 0 13 0 → 1 ≤ j ∧ j ≤ 3 → nI c = nI c2 → nI 1 = nI j → v = nI i → i ≤ (if j = 1 then 3 else if j = 2 then 99 else 2) → ∀ X', Xp X X' (u2 (X 0) j c2 i) → Q (some (.int (nI (X 0 j c2)))) (hp S N X' Y)) : Go 3 RX4 cX4_set 4 (some .int) 20 [some (.ref 69), some (.int (nI c)), some (.int (nI 1)), some (.int v)] [] (hp S N X Y) Q := by
  refine go_iloadn3 (q := 21) dX4_set_20 rfl ?_
  refine go_i2l (q := 22) dX4_set_21 rfl ?_
  refine go_lconst (q := 23) dX4_set_22 rfl ?_
  refine go_iloadn2 (q := 24) dX4_set_23 rfl ?_
  refine go_iconstN (n := 1) (q := 25) dX4_set_24 rfl ?_
  refine go_icmp_neN (tgt := 34) (q := 28) dX4_set_25 (by decide) rfl (by omega) (by omega) (fun h9 => ?_) (fun h9 => ?_)
  · skip
    exact absurd rfl h9
  · skip
    refine go_ldc2 (q := 31) dX4_set_28 ko_X4_104 rfl ?_
    refine go_goto (tgt := 48) dX4_set_31 (by decide) ?_
    refine go_is3_ (q := 51) dX4_set_48 lk_X4_49 (by decide) (by decide) (Nat.le_of_ble_eq_true rfl) rfl (r_isIn (l := 0) (m := 3) (by decide) (by decide) ?_)
    refine go_ifneB (tgt := 61) (q := 54) dX4_set_51 (by decide) rfl (fun h3 => ?_) (fun h3 => ?_)
    · skip
      obtain ⟨i, hi, rfl, -, -⟩ := rg_nat (n := 3) h3 (by omega) (by omega)
      refine go_aloadn0 (q := 62) dX4_set_61 rfl ?_
      refine go_bipushN (v := 20) (q := 64) dX4_set_62 (by decide) rfl ?_
      refine go_iconstN (n := 4) (q := 65) dX4_set_64 rfl ?_
      refine go_iloadn1 (q := 66) dX4_set_65 rfl ?_
      refine go_imulN (q := 67) dX4_set_66 rfl ?_
      refine go_iaddN (q := 68) dX4_set_67 rfl ?_
      refine go_iloadn2 (q := 69) dX4_set_68 rfl ?_
      refine go_iaddN (q := 70) dX4_set_69 rfl ?_
      refine go_iloadn3 (q := 71) dX4_set_70 rfl ?_
      refine go_ix2 (q := 74) dX4_set_71 lk_X4_53 (by decide) (by decide) (Nat.le_of_ble_eq_true rfl) rfl (r_becomes (rr_coin hc12 (by decide)) ?_)
      exact go_iret dX4_set_74 rfl (hO c 1 i hc (by decide) rfl rfl rfl (by simpa using hi) _ (Xc.rf.u 1 c i).p)
    · skip
      refine go_aloadn0 (q := 55) dX4_set_54 rfl ?_
      refine go_ldc (q := 57) dX4_set_55 ko_X4_42 rfl ?_
      refine go_ix1 (q := 60) dX4_set_57 lk_X4_57 (by decide) (by decide) (Nat.le_of_ble_eq_true rfl) rfl (r_finds (p := 0) (by decide) (by decide) ?_)
      exact go_iret dX4_set_60 rfl (hB (fun z => h3 (by have := z.2.2; rw [(show (if nI 1 = nI 1 then 3 else if nI 1 = nI 2 then 99 else 2 : Int) = 3 by decide)] at this; exact this)) _ (Xf.rf 0))

set_option maxHeartbeats 4000000 in
set_option maxRecDepth 100000 in
theorem r_set_20_2 {S : St} {N : Nat → Nat → Int64} {X : St} {Y : Nat → Int64} {Q : Option Value → AH → Prop} {c : Nat} {v : Int32} (hc : c < X 0 13 0) (hc12 : c < 12) (hB : ¬ (ic (X 0) (nI c) ∧ rg (nI 2) 1 3 ∧ rg v 0 (if nI 2 = nI 1 then 3 else if nI 2 = nI 2 then 99 else 2)) → ∀ X', Xf X X' 0 → Q (some (.int (-1000000001))) (hp S N X' Y)) (hO : ∀ c2 j i, c2 < X 0 13 0 → 1 ≤ j ∧ j ≤ 3 → nI c = nI c2 → nI 2 = nI j → v = nI i → i ≤ (if j = 1 then 3 else if j = 2 then 99 else 2) → ∀ X', Xp X X' (u2 (X 0) j c2 i) → Q (some (.int (nI (X 0 j c2)))) (hp S N X' Y)) : Go 3 RX4 cX4_set 4 (some .int) 20 [some (.ref 69), some (.int (nI c)), some (.int (nI 2)), some (.int v)] [] (hp S N X Y) Q := by
  refine go_iloadn3 (q := 21) dX4_set_20 rfl ?_
  refine go_i2l (q := 22) dX4_set_21 rfl ?_
  refine go_lconst (q := 23) dX4_set_22 rfl ?_
  refine go_iloadn2 (q := 24) dX4_set_23 rfl ?_
  refine go_iconstN (n := 1) (q := 25) dX4_set_24 rfl ?_
  refine go_icmp_neN (tgt := 34) (q := 28) dX4_set_25 (by decide) rfl (by omega) (by omega) (fun h9 => ?_) (fun h9 => ?_)
  · skip
    refine go_iloadn2 (q := 35) dX4_set_34 rfl ?_
    refine go_iconstN (n := 2) (q := 36) dX4_set_35 rfl ?_
    refine go_icmp_neN (tgt := 45) (q := 39) dX4_set_36 (by decide) rfl (by omega) (by omega) (fun h8 => ?_) (fun h8 => ?_)
    · skip
      exact absurd rfl h8
    · skip
      refine go_ldc2 (q := 42) dX4_set_39 ko_X4_63 rfl ?_
      refine go_goto (tgt := 48) dX4_set_42 (by decide) ?_
      refine go_is3_ (q := 51) dX4_set_48 lk_X4_49 (by decide) (by decide) (Nat.le_of_ble_eq_true rfl) rfl (r_isIn (l := 0) (m := 99) (by decide) (by decide) ?_)
      refine go_ifneB (tgt := 61) (q := 54) dX4_set_51 (by decide) rfl (fun h3 => ?_) (fun h3 => ?_)
      · skip
        obtain ⟨i, hi, rfl, -, -⟩ := rg_nat (n := 99) h3 (by omega) (by omega)
        refine go_aloadn0 (q := 62) dX4_set_61 rfl ?_
        refine go_bipushN (v := 20) (q := 64) dX4_set_62 (by decide) rfl ?_
        refine go_iconstN (n := 4) (q := 65) dX4_set_64 rfl ?_
        refine go_iloadn1 (q := 66) dX4_set_65 rfl ?_
        refine go_imulN (q := 67) dX4_set_66 rfl ?_
        refine go_iaddN (q := 68) dX4_set_67 rfl ?_
        refine go_iloadn2 (q := 69) dX4_set_68 rfl ?_
        refine go_iaddN (q := 70) dX4_set_69 rfl ?_
        refine go_iloadn3 (q := 71) dX4_set_70 rfl ?_
        refine go_ix2 (q := 74) dX4_set_71 lk_X4_53 (by decide) (by decide) (Nat.le_of_ble_eq_true rfl) rfl (r_becomes (rr_coin hc12 (by decide)) ?_)
        exact go_iret dX4_set_74 rfl (hO c 2 i hc (by decide) rfl rfl rfl (by simpa using hi) _ (Xc.rf.u 2 c i).p)
      · skip
        refine go_aloadn0 (q := 55) dX4_set_54 rfl ?_
        refine go_ldc (q := 57) dX4_set_55 ko_X4_42 rfl ?_
        refine go_ix1 (q := 60) dX4_set_57 lk_X4_57 (by decide) (by decide) (Nat.le_of_ble_eq_true rfl) rfl (r_finds (p := 0) (by decide) (by decide) ?_)
        exact go_iret dX4_set_60 rfl (hB (fun z => h3 (by have := z.2.2; rw [(show (if nI 2 = nI 1 then 3 else if nI 2 = nI 2 then 99 else 2 : Int) = 99 by decide)] at this; exact this)) _ (Xf.rf 0))
  · skip
    exact absurd h9 (by decide)

set_option maxHeartbeats 4000000 in
set_option maxRecDepth 100000 in
theorem r_set_20_3 {S : St} {N : Nat → Nat → Int64} {X : St} {Y : Nat → Int64} {Q : Option Value → AH → Prop} {c : Nat} {v : Int32} (hc : c < X 0 13 0) (hc12 : c < 12) (hB : ¬ (ic (X 0) (nI c) ∧ rg (nI 3) 1 3 ∧ rg v 0 (if nI 3 = nI 1 then 3 else if nI 3 = nI 2 then 99 else 2)) → ∀ X', Xf X X' 0 → Q (some (.int (-1000000001))) (hp S N X' Y)) (hO : ∀ c2 j i, c2 < X 0 13 0 → 1 ≤ j ∧ j ≤ 3 → nI c = nI c2 → nI 3 = nI j → v = nI i → i ≤ (if j = 1 then 3 else if j = 2 then 99 else 2) → ∀ X', Xp X X' (u2 (X 0) j c2 i) → Q (some (.int (nI (X 0 j c2)))) (hp S N X' Y)) : Go 3 RX4 cX4_set 4 (some .int) 20 [some (.ref 69), some (.int (nI c)), some (.int (nI 3)), some (.int v)] [] (hp S N X Y) Q := by
  refine go_iloadn3 (q := 21) dX4_set_20 rfl ?_
  refine go_i2l (q := 22) dX4_set_21 rfl ?_
  refine go_lconst (q := 23) dX4_set_22 rfl ?_
  refine go_iloadn2 (q := 24) dX4_set_23 rfl ?_
  refine go_iconstN (n := 1) (q := 25) dX4_set_24 rfl ?_
  refine go_icmp_neN (tgt := 34) (q := 28) dX4_set_25 (by decide) rfl (by omega) (by omega) (fun h9 => ?_) (fun h9 => ?_)
  · skip
    refine go_iloadn2 (q := 35) dX4_set_34 rfl ?_
    refine go_iconstN (n := 2) (q := 36) dX4_set_35 rfl ?_
    refine go_icmp_neN (tgt := 45) (q := 39) dX4_set_36 (by decide) rfl (by omega) (by omega) (fun h8 => ?_) (fun h8 => ?_)
    · skip
      refine go_ldc2 (q := 48) dX4_set_45 ko_X4_80 rfl ?_
      refine go_is3_ (q := 51) dX4_set_48 lk_X4_49 (by decide) (by decide) (Nat.le_of_ble_eq_true rfl) rfl (r_isIn (l := 0) (m := 2) (by decide) (by decide) ?_)
      refine go_ifneB (tgt := 61) (q := 54) dX4_set_51 (by decide) rfl (fun h3 => ?_) (fun h3 => ?_)
      · skip
        obtain ⟨i, hi, rfl, -, -⟩ := rg_nat (n := 2) h3 (by omega) (by omega)
        refine go_aloadn0 (q := 62) dX4_set_61 rfl ?_
        refine go_bipushN (v := 20) (q := 64) dX4_set_62 (by decide) rfl ?_
        refine go_iconstN (n := 4) (q := 65) dX4_set_64 rfl ?_
        refine go_iloadn1 (q := 66) dX4_set_65 rfl ?_
        refine go_imulN (q := 67) dX4_set_66 rfl ?_
        refine go_iaddN (q := 68) dX4_set_67 rfl ?_
        refine go_iloadn2 (q := 69) dX4_set_68 rfl ?_
        refine go_iaddN (q := 70) dX4_set_69 rfl ?_
        refine go_iloadn3 (q := 71) dX4_set_70 rfl ?_
        refine go_ix2 (q := 74) dX4_set_71 lk_X4_53 (by decide) (by decide) (Nat.le_of_ble_eq_true rfl) rfl (r_becomes (rr_coin hc12 (by decide)) ?_)
        exact go_iret dX4_set_74 rfl (hO c 3 i hc (by decide) rfl rfl rfl (by simpa using hi) _ (Xc.rf.u 3 c i).p)
      · skip
        refine go_aloadn0 (q := 55) dX4_set_54 rfl ?_
        refine go_ldc (q := 57) dX4_set_55 ko_X4_42 rfl ?_
        refine go_ix1 (q := 60) dX4_set_57 lk_X4_57 (by decide) (by decide) (Nat.le_of_ble_eq_true rfl) rfl (r_finds (p := 0) (by decide) (by decide) ?_)
        exact go_iret dX4_set_60 rfl (hB (fun z => h3 (by have := z.2.2; rw [(show (if nI 3 = nI 1 then 3 else if nI 3 = nI 2 then 99 else 2 : Int) = 2 by decide)] at this; exact this)) _ (Xf.rf 0))
    · skip
      exact absurd h8 (by decide)
  · skip
    exact absurd h9 (by decide)

set_option maxHeartbeats 4000000 in
set_option maxRecDepth 100000 in
theorem r_set {S : St} {N : Nat → Nat → Int64} {X : St} {Y : Nat → Int64} {Q : Option Value → AH → Prop} {x w v : Int32} (hw : WF (X 0)) (hB : ¬ (ic (X 0) x ∧ rg w 1 3 ∧ rg v 0 (if w = nI 1 then 3 else if w = nI 2 then 99 else 2)) → ∀ X', Xf X X' 0 → Q (some (.int (-1000000001))) (hp S N X' Y)) (hO : ∀ c j i, c < X 0 13 0 → 1 ≤ j ∧ j ≤ 3 → x = nI c → w = nI j → v = nI i → i ≤ (if j = 1 then 3 else if j = 2 then 99 else 2) → ∀ X', Xp X X' (u2 (X 0) j c i) → Q (some (.int (nI (X 0 j c)))) (hp S N X' Y)) : Cn 3 yX4_set cX4_set 4 (some .int) [.ref 69, .int x, .int w, .int v] (hp S N X Y) Q := by
  refine cn_of (own := RX4) (lo := [some (.ref 69), some (.int x), some (.int w), some (.int v)]) 0 rfl (by decide +kernel) rfl (Nat.le_of_ble_eq_true rfl) ?_
  refine go_aloadn0 (q := 1) dX4_set_0 rfl ?_
  refine go_iloadn1 (q := 2) dX4_set_1 rfl ?_
  refine go_ix1 (q := 5) dX4_set_2 lk_X4_87 (by decide) (by decide) (Nat.le_of_ble_eq_true rfl) rfl (r_isCoin hw ?_)
  refine go_ifeqB (tgt := 54) (q := 8) dX4_set_5 (by decide) rfl (fun h1 => ?_) (fun h1 => ?_)
  · skip
    refine go_aloadn0 (q := 55) dX4_set_54 rfl ?_
    refine go_ldc (q := 57) dX4_set_55 ko_X4_42 rfl ?_
    refine go_ix1 (q := 60) dX4_set_57 lk_X4_57 (by decide) (by decide) (Nat.le_of_ble_eq_true rfl) rfl (r_finds (p := 0) (by decide) (by decide) ?_)
    exact go_iret dX4_set_60 rfl (hB (fun z => h1 z.1) _ (Xf.rf 0))
  · skip
    refine go_iloadn2 (q := 9) dX4_set_8 rfl ?_
    refine go_i2l (q := 10) dX4_set_9 rfl ?_
    refine go_lconst (q := 11) dX4_set_10 rfl ?_
    refine go_ldc2 (q := 14) dX4_set_11 ko_X4_104 rfl ?_
    refine go_is3_ (q := 17) dX4_set_14 lk_X4_49 (by decide) (by decide) (Nat.le_of_ble_eq_true rfl) rfl (r_isIn (l := 1) (m := 3) (by decide) (by decide) ?_)
    refine go_ifeqB (tgt := 54) (q := 20) dX4_set_17 (by decide) rfl (fun h2 => ?_) (fun h2 => ?_)
    · skip
      refine go_aloadn0 (q := 55) dX4_set_54 rfl ?_
      refine go_ldc (q := 57) dX4_set_55 ko_X4_42 rfl ?_
      refine go_ix1 (q := 60) dX4_set_57 lk_X4_57 (by decide) (by decide) (Nat.le_of_ble_eq_true rfl) rfl (r_finds (p := 0) (by decide) (by decide) ?_)
      exact go_iret dX4_set_60 rfl (hB (fun z => h2 z.2.1) _ (Xf.rf 0))
    · skip
      obtain ⟨c, hc, hc12, rfl⟩ := ic_nat h1 hw
      obtain ⟨j, hj3, rfl, hj1, -⟩ := rg_nat (n := 3) h2 (by omega) (by omega)
      rcases (show j = 1 ∨ j = 2 ∨ j = 3 by omega) with rfl | rfl | rfl
      · exact r_set_20_1 hc hc12 hB hO
      · exact r_set_20_2 hc hc12 hB hO
      · exact r_set_20_3 hc hc12 hB hO

set_option maxHeartbeats 4000000 in
set_option maxRecDepth 100000 in
theorem r_swaps_2 {S : St} {N : Nat → Nat → Int64} {X : St} {Y : Nat → Int64} {Q : Option Value → AH → Prop} {a b : Nat} (ha : a < 12) (hb : b < 12) (hO : ∀ X', Xc X X' (swp (X 0) a b) → Q none (hp S N X' Y)) : ∀ (fu : Nat) (j : Nat) (X1 : St), 4 - j < fu → (j ≤ 4) → (Xc X X1 (swpN (X 0) a b j)) → Go 2 RX4 cX4_swaps 5 none 2 [some (.ref 69), some (.int (nI a)), some (.int (nI b)), some (.int (nI j)), none] [] (hp S N X1 Y) Q := by
  intro fu
  induction fu with
  | zero => intro j X1 hfu; exact absurd hfu (Nat.not_lt_zero _)
  | succ fu ih =>
    intro j X1 hfu hj g
    refine go_iloadn3 (q := 3) dX4_swaps_2 rfl ?_
    refine go_iconstN (n := 4) (q := 4) dX4_swaps_3 rfl ?_
    refine go_icmp_geN (tgt := 41) (q := 7) dX4_swaps_4 (by decide) rfl (by omega) (by omega) (fun h1 => ?_) (fun h1 => ?_)
    · skip
      exact go_ret0 dX4_swaps_41 rfl (hO _ (g.to (by rw [show j = 4 by omega, swpN_4])))
    · skip
      refine go_aloadn0 (q := 8) dX4_swaps_7 rfl ?_
      refine go_iloadn1 (q := 9) dX4_swaps_8 rfl ?_
      refine go_iloadn3 (q := 10) dX4_swaps_9 rfl ?_
      refine go_ix2 (q := 13) dX4_swaps_10 lk_X4_84 (by decide) (by decide) (Nat.le_of_ble_eq_true rfl) rfl (r_is ha (by omega) ?_)
      rw [g.1]
      refine go_istore4 (q := 15) dX4_swaps_13 rfl (by decide) rfl ?_
      refine go_aloadn0 (q := 16) dX4_swaps_15 rfl ?_
      refine go_iloadn1 (q := 17) dX4_swaps_16 rfl ?_
      refine go_iloadn3 (q := 18) dX4_swaps_17 rfl ?_
      refine go_aloadn0 (q := 19) dX4_swaps_18 rfl ?_
      refine go_iloadn2 (q := 20) dX4_swaps_19 rfl ?_
      refine go_iloadn3 (q := 21) dX4_swaps_20 rfl ?_
      refine go_ix2 (q := 24) dX4_swaps_21 lk_X4_84 (by decide) (by decide) (Nat.le_of_ble_eq_true rfl) rfl (r_is hb (by omega) ?_)
      rw [g.1]
      refine go_ix3 (q := 27) dX4_swaps_24 lk_X4_65 (by decide) (by decide) (Nat.le_of_ble_eq_true rfl) rfl (r_puts ha (by omega) ?_)
      refine go_aloadn0 (q := 28) dX4_swaps_27 rfl ?_
      refine go_iloadn2 (q := 29) dX4_swaps_28 rfl ?_
      refine go_iloadn3 (q := 30) dX4_swaps_29 rfl ?_
      refine go_iload4 (q := 32) dX4_swaps_30 rfl ?_
      refine go_ix3 (q := 35) dX4_swaps_32 lk_X4_65 (by decide) (by decide) (Nat.le_of_ble_eq_true rfl) rfl (r_puts hb (by omega) ?_)
      refine go_iincN3 (n := 1) (q := 38) dX4_swaps_35 rfl (by decide) rfl ?_
      refine go_goto (tgt := 2) dX4_swaps_38 (by decide) ?_
      refine go_forget (lo' := [some (.ref 69), some (.int (nI a)), some (.int (nI b)), some (.int (nI (j + 1))), none]) (fun i v hi => by match i, hi with | 0, h => exact h | 1, h => exact h | 2, h => exact h | 3, h => exact h | 4, h => cases h) ?_
      exact ih (j + 1) _ (by omega) (by omega) (((g.u j a _).u j b _).to (swpN_s _ _ _ _ (by omega)))

set_option maxHeartbeats 4000000 in
set_option maxRecDepth 100000 in
theorem r_swaps {S : St} {N : Nat → Nat → Int64} {X : St} {Y : Nat → Int64} {Q : Option Value → AH → Prop} {a b : Nat} (ha : a < 12) (hb : b < 12) (hO : ∀ X', Xc X X' (swp (X 0) a b) → Q none (hp S N X' Y)) : Cn 2 yX4_swaps cX4_swaps 5 none [.ref 69, .int (nI a), .int (nI b)] (hp S N X Y) Q := by
  refine cn_of (own := RX4) (lo := [some (.ref 69), some (.int (nI a)), some (.int (nI b)), none, none]) 2 rfl (by decide +kernel) rfl (Nat.le_of_ble_eq_true rfl) ?_
  refine go_iconstN (n := 0) (q := 1) dX4_swaps_0 rfl ?_
  refine go_istoren3 (q := 2) dX4_swaps_1 rfl (by decide) rfl ?_
  exact r_swaps_2 ha hb hO 5 0 X (by omega) (by omega) (Xc.rf.to (swpN_0 _ _ _).symm)

set_option maxHeartbeats 4000000 in
set_option maxRecDepth 100000 in
theorem r_swap {S : St} {N : Nat → Nat → Int64} {X : St} {Y : Nat → Int64} {Q : Option Value → AH → Prop} {x v : Int32} (hw : WF (X 0)) (hB : ¬ (ic (X 0) x ∧ ic (X 0) v) → ∀ X', Xf X X' 0 → Q (some (.int (-1000000001))) (hp S N X' Y)) (hO : ∀ c j, c < X 0 13 0 → j < X 0 13 0 → x = nI c → v = nI j → ∀ X', Xp X X' (swp (X 0) c j) → Q (some (.int (nI 1))) (hp S N X' Y)) : Cn 3 yX4_swap cX4_swap 3 (some .int) [.ref 69, .int x, .int v] (hp S N X Y) Q := by
  refine cn_of (own := RX4) (lo := [some (.ref 69), some (.int x), some (.int v)]) 0 rfl (by decide +kernel) rfl (Nat.le_of_ble_eq_true rfl) ?_
  refine go_aloadn0 (q := 1) dX4_swap_0 rfl ?_
  refine go_iloadn1 (q := 2) dX4_swap_1 rfl ?_
  refine go_ix1 (q := 5) dX4_swap_2 lk_X4_87 (by decide) (by decide) (Nat.le_of_ble_eq_true rfl) rfl (r_isCoin hw ?_)
  refine go_ifeqB (tgt := 16) (q := 8) dX4_swap_5 (by decide) rfl (fun h1 => ?_) (fun h1 => ?_)
  · skip
    refine go_aloadn0 (q := 17) dX4_swap_16 rfl ?_
    refine go_ldc (q := 19) dX4_swap_17 ko_X4_42 rfl ?_
    refine go_ix1 (q := 22) dX4_swap_19 lk_X4_57 (by decide) (by decide) (Nat.le_of_ble_eq_true rfl) rfl (r_finds (p := 0) (by decide) (by decide) ?_)
    exact go_iret dX4_swap_22 rfl (hB (fun z => h1 z.1) _ (Xf.rf 0))
  · skip
    refine go_aloadn0 (q := 9) dX4_swap_8 rfl ?_
    refine go_iloadn2 (q := 10) dX4_swap_9 rfl ?_
    refine go_ix1 (q := 13) dX4_swap_10 lk_X4_87 (by decide) (by decide) (Nat.le_of_ble_eq_true rfl) rfl (r_isCoin hw ?_)
    refine go_ifneB (tgt := 23) (q := 16) dX4_swap_13 (by decide) rfl (fun h2 => ?_) (fun h2 => ?_)
    · skip
      obtain ⟨c, hc, hc12, rfl⟩ := ic_nat h1 hw
      obtain ⟨j, hj, hj12, rfl⟩ := ic_nat h2 hw
      refine go_aloadn0 (q := 24) dX4_swap_23 rfl ?_
      refine go_iloadn1 (q := 25) dX4_swap_24 rfl ?_
      refine go_iloadn2 (q := 26) dX4_swap_25 rfl ?_
      refine go_ix2 (q := 29) dX4_swap_26 lk_X4_111 (by decide) (by decide) (Nat.le_of_ble_eq_true rfl) rfl (r_swaps hc12 hj12 (fun X1 g1 => ?_))
      refine go_iconstN (n := 1) (q := 30) dX4_swap_29 rfl ?_
      exact go_iret dX4_swap_30 rfl (hO c j hc hj rfl rfl _ g1.p)
    · skip
      refine go_aloadn0 (q := 17) dX4_swap_16 rfl ?_
      refine go_ldc (q := 19) dX4_swap_17 ko_X4_42 rfl ?_
      refine go_ix1 (q := 22) dX4_swap_19 lk_X4_57 (by decide) (by decide) (Nat.le_of_ble_eq_true rfl) rfl (r_finds (p := 0) (by decide) (by decide) ?_)
      exact go_iret dX4_swap_22 rfl (hB (fun z => h2 z.2) _ (Xf.rf 0))

set_option maxHeartbeats 4000000 in
set_option maxRecDepth 100000 in
theorem r_plant {S : St} {N : Nat → Nat → Int64} {X : St} {Y : Nat → Int64} {Q : Option Value → AH → Prop} {x : Int32} (hw : WF (X 0)) (hB : ¬ ic (X 0) x → ∀ X', Xf X X' 0 → Q (some (.int (-1000000001))) (hp S N X' Y)) (hS : ∀ c, c < X 0 13 0 → x = nI c → ¬ (X 0 3 c = 0 ∧ (2 ≤ sea (X 0) ∧ sea (X 0) ≤ 5)) → ∀ X', Xf X X' 4 → Q (some (.int (-1000000005))) (hp S N X' Y)) (hO : ∀ c, c < X 0 13 0 → x = nI c → (X 0 3 c = 0 ∧ (2 ≤ sea (X 0) ∧ sea (X 0) ≤ 5)) → ∀ X', Xp X X' (u2 (X 0) 3 c 2) → Q (some (.int (nI (X 0 2 c)))) (hp S N X' Y)) : Cn 3 yX4_plant cX4_plant 2 (some .int) [.ref 69, .int x] (hp S N X Y) Q := by
  refine cn_of (own := RX4) (lo := [some (.ref 69), some (.int x)]) 0 rfl (by decide +kernel) rfl (Nat.le_of_ble_eq_true rfl) ?_
  refine go_aloadn0 (q := 1) dX4_plant_0 rfl ?_
  refine go_iloadn1 (q := 2) dX4_plant_1 rfl ?_
  refine go_ix1 (q := 5) dX4_plant_2 lk_X4_87 (by decide) (by decide) (Nat.le_of_ble_eq_true rfl) rfl (r_isCoin hw ?_)
  refine go_ifneB (tgt := 15) (q := 8) dX4_plant_5 (by decide) rfl (fun h1 => ?_) (fun h1 => ?_)
  · skip
    obtain ⟨c, hc, hc12, rfl⟩ := ic_nat h1 hw
    refine go_aloadn0 (q := 16) dX4_plant_15 rfl ?_
    refine go_iloadn1 (q := 17) dX4_plant_16 rfl ?_
    refine go_iconstN (n := 3) (q := 18) dX4_plant_17 rfl ?_
    refine go_ix2 (q := 21) dX4_plant_18 lk_X4_84 (by decide) (by decide) (Nat.le_of_ble_eq_true rfl) rfl (r_is hc12 (by decide) ?_)
    refine go_if_neN (tgt := 31) (q := 24) dX4_plant_21 (by decide) rfl (by have := hw.st c; omega) (fun h2 => ?_) (fun h2 => ?_)
    · skip
      refine go_aloadn0 (q := 32) dX4_plant_31 rfl ?_
      refine go_ldc (q := 34) dX4_plant_32 ko_X4_119 rfl ?_
      refine go_ix1 (q := 37) dX4_plant_34 lk_X4_57 (by decide) (by decide) (Nat.le_of_ble_eq_true rfl) rfl (r_finds (p := 4) (by decide) (by decide) ?_)
      exact go_iret dX4_plant_37 rfl (hS c hc rfl (fun z => h2 z.1) _ (Xf.rf 4))
    · skip
      refine go_aloadn0 (q := 25) dX4_plant_24 rfl ?_
      refine go_ix0 (q := 28) dX4_plant_25 lk_X4_115 (by decide) (by decide) (Nat.le_of_ble_eq_true rfl) rfl (r_isSpring hw ?_)
      refine go_ifneB (tgt := 38) (q := 31) dX4_plant_28 (by decide) rfl (fun h3 => ?_) (fun h3 => ?_)
      · skip
        refine go_aloadn0 (q := 39) dX4_plant_38 rfl ?_
        refine go_iloadn1 (q := 40) dX4_plant_39 rfl ?_
        refine go_iconstN (n := 3) (q := 41) dX4_plant_40 rfl ?_
        refine go_iconstN (n := 2) (q := 42) dX4_plant_41 rfl ?_
        refine go_ix3 (q := 45) dX4_plant_42 lk_X4_65 (by decide) (by decide) (Nat.le_of_ble_eq_true rfl) rfl (r_puts hc12 (by decide) ?_)
        refine go_aloadn0 (q := 46) dX4_plant_45 rfl ?_
        refine go_iloadn1 (q := 47) dX4_plant_46 rfl ?_
        refine go_iconstN (n := 2) (q := 48) dX4_plant_47 rfl ?_
        refine go_ix2 (q := 51) dX4_plant_48 lk_X4_84 (by decide) (by decide) (Nat.le_of_ble_eq_true rfl) rfl (r_is hc12 (by decide) ?_)
        exact go_iret dX4_plant_51 rfl (hO c hc rfl ⟨h2, h3⟩ _ (Xc.rf.u 3 c 2).p)
      · skip
        refine go_aloadn0 (q := 32) dX4_plant_31 rfl ?_
        refine go_ldc (q := 34) dX4_plant_32 ko_X4_119 rfl ?_
        refine go_ix1 (q := 37) dX4_plant_34 lk_X4_57 (by decide) (by decide) (Nat.le_of_ble_eq_true rfl) rfl (r_finds (p := 4) (by decide) (by decide) ?_)
        exact go_iret dX4_plant_37 rfl (hS c hc rfl (fun z => h3 z.2) _ (Xf.rf 4))
  · skip
    refine go_aloadn0 (q := 9) dX4_plant_8 rfl ?_
    refine go_ldc (q := 11) dX4_plant_9 ko_X4_42 rfl ?_
    refine go_ix1 (q := 14) dX4_plant_11 lk_X4_57 (by decide) (by decide) (Nat.le_of_ble_eq_true rfl) rfl (r_finds (p := 0) (by decide) (by decide) ?_)
    exact go_iret dX4_plant_14 rfl (hB h1 _ (Xf.rf 0))
