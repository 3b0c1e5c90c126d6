set_option maxHeartbeats 4000000 in
set_option maxRecDepth 100000 in
theorem c_finding {S : St} {N : Nat → Nat → Int64} {X : St} {Y : Nat → Int64} {Q : Option Value → AH → Prop} {x : Int32} {p : Nat} (hx : -1000000001 - x = nI p) (hp7 : p < 7) (hQ : Q (some (.int x)) (hp (cnt S p) N X Y)) : Cn 1 yX3_finding cX3_finding 3 (some .int) [.ref 0, .int x] (hp S N X Y) Q := by
  refine cn_of (own := RX3) (lo := [some (.ref 0), some (.int x), none]) 1 rfl (by decide +kernel) rfl (Nat.le_of_ble_eq_true rfl) ?_
  refine go_ldc (q := 2) dX3_finding_0 ko_X3_55 rfl ?_
  refine go_iloadn1 (q := 3) dX3_finding_2 rfl ?_
  refine go_isub (q := 4) dX3_finding_3 rfl ?_
  refine go_st (st' := [.int (nI p)]) (by rw [hx]) ?_
  refine go_istoren2 (q := 5) dX3_finding_4 rfl (by decide) rfl ?_
  refine go_iloadn2 (q := 6) dX3_finding_5 rfl ?_
  refine go_if_ltN (tgt := 25) (q := 9) dX3_finding_6 (by decide) rfl (by omega) (fun h1 => ?_) (fun h1 => ?_)
  · skip
    exact h1.elim
  · skip
    refine go_iloadn2 (q := 10) dX3_finding_9 rfl ?_
    refine go_bipushN (v := 7) (q := 12) dX3_finding_10 (by decide) rfl ?_
    refine go_icmp_geN (tgt := 25) (q := 15) dX3_finding_12 (by decide) rfl (by omega) (by omega) (fun h2 => ?_) (fun h2 => ?_)
    · skip
      exact absurd h2 (by omega)
    · skip
      refine go_aloadn0 (q := 16) dX3_finding_15 rfl ?_
      refine go_cg (q := 19) dX3_finding_16 fl_X3_39 rfl rfl ?_
      refine go_iloadn2 (q := 20) dX3_finding_19 rfl ?_
      refine go_dup2 (q := 21) dX3_finding_20 rfl rfl rfl ?_
      refine go_dld (q := 22) dX3_finding_21 hp7 rfl ?_
      refine go_iconstN (n := 1) (q := 23) dX3_finding_22 rfl ?_
      refine go_iaddN (q := 24) dX3_finding_23 rfl ?_
      refine go_dst (q := 25) dX3_finding_24 hp7 rfl ?_
      refine go_iloadn1 (q := 26) dX3_finding_25 rfl ?_
      exact go_iret dX3_finding_26 rfl hQ

set_option maxHeartbeats 4000000 in
set_option maxRecDepth 100000 in
theorem c_isWithin {h : AH} {Q : Option Value → AH → Prop} {v a b : Int32} {l m : Int} (ha : a.toInt = l) (hb : b.toInt = m) (hQ : Q (some (.int (bI (rg v l m)))) h) : Cn 1 yX3_isWithin cX3_isWithin 3 (some .boolean) [.int v, .int a, .int b] h Q := by
  refine cn_of (own := RX3) (lo := [some (.int v), some (.int a), some (.int b)]) 0 rfl (by decide +kernel) rfl (Nat.le_of_ble_eq_true rfl) ?_
  refine go_iloadn0 (q := 1) dX3_isWithin_0 rfl ?_
  refine go_iloadn1 (q := 2) dX3_isWithin_1 rfl ?_
  refine go_icmp_lt (tgt := 14) (q := 5) dX3_isWithin_2 (by decide) rfl (fun h1 => ?_) (fun h1 => ?_)
  · skip
    refine go_iconstN (n := 0) (q := 15) dX3_isWithin_14 rfl ?_
    exact go_zret0 dX3_isWithin_15 rfl (by rw [Int32.lt_iff_toInt_lt] at h1; omega) hQ
  · skip
    refine go_iloadn0 (q := 6) dX3_isWithin_5 rfl ?_
    refine go_iloadn2 (q := 7) dX3_isWithin_6 rfl ?_
    refine go_icmp_gt (tgt := 14) (q := 10) dX3_isWithin_7 (by decide) rfl (fun h2 => ?_) (fun h2 => ?_)
    · skip
      refine go_iconstN (n := 0) (q := 15) dX3_isWithin_14 rfl ?_
      exact go_zret0 dX3_isWithin_15 rfl (by rw [Int32.lt_iff_toInt_lt] at h2; omega) hQ
    · skip
      refine go_iconstN (n := 1) (q := 11) dX3_isWithin_10 rfl ?_
      refine go_goto (tgt := 15) dX3_isWithin_11 (by decide) ?_
      exact go_zret1 dX3_isWithin_15 rfl (by rw [Int32.lt_iff_toInt_lt] at h1 h2; omega) hQ

set_option maxHeartbeats 4000000 in
set_option maxRecDepth 100000 in
theorem c_isOwner {h : AH} {Q : Option Value → AH → Prop} {v : Int32} (hQ : Q (some (.int (bI (rg v 0 3)))) h) : Cn 2 yX3_isOwner cX3_isOwner 1 (some .boolean) [.int v] h Q := by
  refine cn_of (own := RX3) (lo := [some (.int v)]) 0 rfl (by decide +kernel) rfl (Nat.le_of_ble_eq_true rfl) ?_
  refine go_iloadn0 (q := 1) dX3_isOwner_0 rfl ?_
  refine go_iconstN (n := 0) (q := 2) dX3_isOwner_1 rfl ?_
  refine go_iconstN (n := 3) (q := 3) dX3_isOwner_2 rfl ?_
  refine go_is3_ (q := 6) dX3_isOwner_3 lk_X3_51 (by decide) (by decide) (Nat.le_of_ble_eq_true rfl) rfl (c_isWithin (l := 0) (m := 3) (by decide) (by decide) ?_)
  exact go_zretB dX3_isOwner_6 rfl hQ

set_option maxHeartbeats 4000000 in
set_option maxRecDepth 100000 in
theorem c_isOwed {h : AH} {Q : Option Value → AH → Prop} {v : Int32} (hQ : Q (some (.int (bI (rg v 1 9999)))) h) : Cn 2 yX3_isOwed cX3_isOwed 1 (some .boolean) [.int v] h Q := by
  refine cn_of (own := RX3) (lo := [some (.int v)]) 0 rfl (by decide +kernel) rfl (Nat.le_of_ble_eq_true rfl) ?_
  refine go_iloadn0 (q := 1) dX3_isOwed_0 rfl ?_
  refine go_iconstN (n := 1) (q := 2) dX3_isOwed_1 rfl ?_
  refine go_sipushN (v := 9999) (q := 5) dX3_isOwed_2 (by decide) rfl ?_
  refine go_is3_ (q := 8) dX3_isOwed_5 lk_X3_51 (by decide) (by decide) (Nat.le_of_ble_eq_true rfl) rfl (c_isWithin (l := 1) (m := 9999) (by decide) (by decide) ?_)
  exact go_zretB dX3_isOwed_8 rfl hQ

set_option maxHeartbeats 4000000 in
set_option maxRecDepth 100000 in
theorem c_isKind {h : AH} {Q : Option Value → AH → Prop} {v : Int32} (hQ : Q (some (.int (bI (rg v 0 5)))) h) : Cn 2 yX3_isKind cX3_isKind 1 (some .boolean) [.int v] h Q := by
  refine cn_of (own := RX3) (lo := [some (.int v)]) 0 rfl (by decide +kernel) rfl (Nat.le_of_ble_eq_true rfl) ?_
  refine go_iloadn0 (q := 1) dX3_isKind_0 rfl ?_
  refine go_iconstN (n := 0) (q := 2) dX3_isKind_1 rfl ?_
  refine go_iconstN (n := 5) (q := 3) dX3_isKind_2 rfl ?_
  refine go_is3_ (q := 6) dX3_isKind_3 lk_X3_51 (by decide) (by decide) (Nat.le_of_ble_eq_true rfl) rfl (c_isWithin (l := 0) (m := 5) (by decide) (by decide) ?_)
  exact go_zretB dX3_isKind_6 rfl hQ

set_option maxHeartbeats 4000000 in
set_option maxRecDepth 100000 in
theorem c_isSheet {h : AH} {Q : Option Value → AH → Prop} {v : Int32} (hQ : Q (some (.int (bI (rg v 0 3)))) h) : Cn 2 yX3_isSheet cX3_isSheet 1 (some .boolean) [.int v] h Q := by
  refine cn_of (own := RX3) (lo := [some (.int v)]) 0 rfl (by decide +kernel) rfl (Nat.le_of_ble_eq_true rfl) ?_
  refine go_iloadn0 (q := 1) dX3_isSheet_0 rfl ?_
  refine go_iconstN (n := 0) (q := 2) dX3_isSheet_1 rfl ?_
  refine go_iconstN (n := 3) (q := 3) dX3_isSheet_2 rfl ?_
  refine go_is3_ (q := 6) dX3_isSheet_3 lk_X3_51 (by decide) (by decide) (Nat.le_of_ble_eq_true rfl) rfl (c_isWithin (l := 0) (m := 3) (by decide) (by decide) ?_)
  exact go_zretB dX3_isSheet_6 rfl hQ

set_option maxHeartbeats 4000000 in
set_option maxRecDepth 100000 in
theorem c_areTwo {h : AH} {Q : Option Value → AH → Prop} {x y : Int32} (hQ : Q (some (.int (bI (rg x 0 3 ∧ rg y 0 3 ∧ x ≠ y)))) h) : Cn 3 yX3_areTwoOwners cX3_areTwoOwners 2 (some .boolean) [.int x, .int y] h Q := by
  refine cn_of (own := RX3) (lo := [some (.int x), some (.int y)]) 0 rfl (by decide +kernel) rfl (Nat.le_of_ble_eq_true rfl) ?_
  refine go_iloadn0 (q := 1) dX3_areTwoOwners_0 rfl ?_
  refine go_is1_ (q := 4) dX3_areTwoOwners_1 lk_X3_47 (by decide) (by decide) (Nat.le_of_ble_eq_true rfl) rfl (c_isOwner ?_)
  refine go_ifeqB (tgt := 23) (q := 7) dX3_areTwoOwners_4 (by decide) rfl (fun h1 => ?_) (fun h1 => ?_)
  · skip
    refine go_iconstN (n := 0) (q := 24) dX3_areTwoOwners_23 rfl ?_
    exact go_zret0 dX3_areTwoOwners_24 rfl (fun z => h1 z.1) hQ
  · skip
    refine go_iloadn1 (q := 8) dX3_areTwoOwners_7 rfl ?_
    refine go_is1_ (q := 11) dX3_areTwoOwners_8 lk_X3_47 (by decide) (by decide) (Nat.le_of_ble_eq_true rfl) rfl (c_isOwner ?_)
    refine go_ifeqB (tgt := 23) (q := 14) dX3_areTwoOwners_11 (by decide) rfl (fun h2 => ?_) (fun h2 => ?_)
    · skip
      refine go_iconstN (n := 0) (q := 24) dX3_areTwoOwners_23 rfl ?_
      exact go_zret0 dX3_areTwoOwners_24 rfl (fun z => h2 z.2.1) hQ
    · skip
      refine go_iloadn0 (q := 15) dX3_areTwoOwners_14 rfl ?_
      refine go_iloadn1 (q := 16) dX3_areTwoOwners_15 rfl ?_
      refine go_icmp_eq (tgt := 23) (q := 19) dX3_areTwoOwners_16 (by decide) rfl (fun h3 => ?_) (fun h3 => ?_)
      · skip
        refine go_iconstN (n := 0) (q := 24) dX3_areTwoOwners_23 rfl ?_
        exact go_zret0 dX3_areTwoOwners_24 rfl (fun z => z.2.2 h3) hQ
      · skip
        refine go_iconstN (n := 1) (q := 20) dX3_areTwoOwners_19 rfl ?_
        refine go_goto (tgt := 24) dX3_areTwoOwners_20 (by decide) ?_
        exact go_zret1 dX3_areTwoOwners_24 rfl ⟨h1, h2, h3⟩ hQ

set_option maxHeartbeats 4000000 in
set_option maxRecDepth 100000 in
theorem c_isCoin {S : St} {N : Nat → Nat → Int64} {X : St} {Y : Nat → Int64} {Q : Option Value → AH → Prop} {x : Int32} (hw : WF (S 0)) (hQ : Q (some (.int (bI (ic (S 0) x)))) (hp S N X Y)) : Cn 2 yX3_isCoin cX3_isCoin 2 (some .boolean) [.ref 0, .int x] (hp S N X Y) Q := by
  refine cn_of (own := RX3) (lo := [some (.ref 0), some (.int x)]) 0 rfl (by decide +kernel) rfl (Nat.le_of_ble_eq_true rfl) ?_
  refine go_iloadn1 (q := 1) dX3_isCoin_0 rfl ?_
  refine go_iconstN (n := 0) (q := 2) dX3_isCoin_1 rfl ?_
  refine go_aloadn0 (q := 3) dX3_isCoin_2 rfl ?_
  refine go_cg (q := 6) dX3_isCoin_3 fl_X3_10 rfl rfl ?_
  refine go_mg (q := 9) dX3_isCoin_6 fl_X3_69 (by decide) rfl rfl ?_
  refine go_iconstN (n := 1) (q := 10) dX3_isCoin_9 rfl ?_
  refine go_isub (q := 11) dX3_isCoin_10 rfl ?_
  refine go_is3_ (q := 14) dX3_isCoin_11 lk_X3_51 (by decide) (by decide) (Nat.le_of_ble_eq_true rfl) rfl (c_isWithin (l := 0) (m := (S 0 13 0 : Int) - 1) (by decide) (pk_sub_toInt (by have := hw.co; omega) (by decide)) ?_)
  exact go_zretB dX3_isCoin_14 rfl hQ

set_option maxHeartbeats 4000000 in
set_option maxRecDepth 100000 in
theorem c_past {S : St} {N : Nat → Nat → Int64} {X : St} {Y : Nat → Int64} {Q : Option Value → AH → Prop} {n : Nat} (hw : WF (S 0)) (hn : n ≤ 9999) (hQ : Q (some (.int (bI (9999 < S 0 13 2 + n)))) (hp S N X Y)) : Cn 1 yX3_isPastTheEnd cX3_isPastTheEnd 2 (some .boolean) [.ref 0, .int (nI n)] (hp S N X Y) Q := by
  have hm := hw.mo
  refine cn_of (own := RX3) (lo := [some (.ref 0), some (.int (nI n))]) 0 rfl (by decide +kernel) rfl (Nat.le_of_ble_eq_true rfl) ?_
  refine go_aloadn0 (q := 1) dX3_isPastTheEnd_0 rfl ?_
  refine go_cg (q := 4) dX3_isPastTheEnd_1 fl_X3_10 rfl rfl ?_
  refine go_mg (q := 7) dX3_isPastTheEnd_4 fl_X3_177 (by decide) rfl rfl ?_
  refine go_sipushN (v := 9999) (q := 10) dX3_isPastTheEnd_7 (by decide) rfl ?_
  refine go_iloadn1 (q := 11) dX3_isPastTheEnd_10 rfl ?_
  refine go_isubN (q := 12) dX3_isPastTheEnd_11 hn rfl ?_
  refine go_icmp_leN (tgt := 19) (q := 15) dX3_isPastTheEnd_12 (by decide) rfl (by omega) (by omega) (fun h1 => ?_) (fun h1 => ?_)
  · skip
    refine go_iconstN (n := 0) (q := 20) dX3_isPastTheEnd_19 rfl ?_
    exact go_zret0 dX3_isPastTheEnd_20 rfl (by omega) hQ
  · skip
    refine go_iconstN (n := 1) (q := 16) dX3_isPastTheEnd_15 rfl ?_
    refine go_goto (tgt := 20) dX3_isPastTheEnd_16 (by decide) ?_
    exact go_zret1 dX3_isPastTheEnd_20 rfl (by omega) hQ

set_option maxHeartbeats 4000000 in
set_option maxRecDepth 100000 in
theorem c_soil {S : St} {N : Nat → Nat → Int64} {X : St} {Y : Nat → Int64} {Q : Option Value → AH → Prop} {x v : Int32} (hw : WF (S 0)) (hB : ¬ (rg x 0 3 ∧ rg v 0 9) → ∀ S', Cf S S' 0 → Q (some (.int (-1000000001))) (hp S' N X Y)) (hO : ∀ i j, i ≤ 3 → j ≤ 9 → x = nI i → v = nI j → ∀ S', Cc S S' (u2 (S 0) 4 i j) → Q (some (.int (nI (S 0 4 i)))) (hp S' N X Y)) : Cn 3 yX3_soil cX3_soil 4 (some .int) [.ref 0, .int x, .int v] (hp S N X Y) Q := by
  refine cn_of (own := RX3) (lo := [some (.ref 0), some (.int x), some (.int v), none]) 1 rfl (by decide +kernel) rfl (Nat.le_of_ble_eq_true rfl) ?_
  refine go_iloadn1 (q := 1) dX3_soil_0 rfl ?_
  refine go_is1_ (q := 4) dX3_soil_1 lk_X3_47 (by decide) (by decide) (Nat.le_of_ble_eq_true rfl) rfl (c_isOwner ?_)
  refine go_ifeqB (tgt := 17) (q := 7) dX3_soil_4 (by decide) rfl (fun h1 => ?_) (fun h1 => ?_)
  · skip
    refine go_aloadn0 (q := 18) dX3_soil_17 rfl ?_
    refine go_ldc (q := 20) dX3_soil_18 ko_X3_55 rfl ?_
    refine go_ic1 (q := 23) dX3_soil_20 lk_X3_56 (by decide) (by decide) (Nat.le_of_ble_eq_true rfl) rfl (c_finding (p := 0) (by decide) (by decide) ?_)
    exact go_iret dX3_soil_23 rfl (hB (fun z => h1 z.1) _ (Cf.rf 0))
  · skip
    refine go_iloadn2 (q := 8) dX3_soil_7 rfl ?_
    refine go_iconstN (n := 0) (q := 9) dX3_soil_8 rfl ?_
    refine go_bipushN (v := 9) (q := 11) dX3_soil_9 (by decide) rfl ?_
    refine go_is3_ (q := 14) dX3_soil_11 lk_X3_51 (by decide) (by decide) (Nat.le_of_ble_eq_true rfl) rfl (c_isWithin (l := 0) (m := 9) (by decide) (by decide) ?_)
    refine go_ifneB (tgt := 24) (q := 17) dX3_soil_14 (by decide) rfl (fun h2 => ?_) (fun h2 => ?_)
    · skip
      obtain ⟨i, hi, rfl, -, -⟩ := rg_nat (n := 3) h1 (by omega) (by omega)
      obtain ⟨j, hj, rfl, -, -⟩ := rg_nat (n := 9) h2 (by omega) (by omega)
      refine go_aloadn0 (q := 25) dX3_soil_24 rfl ?_
      refine go_cg (q := 28) dX3_soil_25 fl_X3_10 rfl rfl ?_
      refine go_mg (q := 31) dX3_soil_28 fl_X3_60 (by decide) rfl rfl ?_
      refine go_iloadn1 (q := 32) dX3_soil_31 rfl ?_
      refine go_mld (q := 33) dX3_soil_32 (by decide) (by decide) (show i < 4 by omega) rfl ?_
      refine go_istoren3 (q := 34) dX3_soil_33 rfl (by decide) rfl ?_
      refine go_aloadn0 (q := 35) dX3_soil_34 rfl ?_
      refine go_cg (q := 38) dX3_soil_35 fl_X3_10 rfl rfl ?_
      refine go_mg (q := 41) dX3_soil_38 fl_X3_60 (by decide) rfl rfl ?_
      refine go_iloadn1 (q := 42) dX3_soil_41 rfl ?_
      refine go_iloadn2 (q := 43) dX3_soil_42 rfl ?_
      refine go_mst (q := 44) dX3_soil_43 (by decide) (by decide) (show i < 4 by omega) rfl ?_
      refine go_iloadn3 (q := 45) dX3_soil_44 rfl ?_
      exact go_iret dX3_soil_45 rfl (hO i j hi hj rfl rfl _ (Ch.rf.u 4 i j).here)
    · skip
      refine go_aloadn0 (q := 18) dX3_soil_17 rfl ?_
      refine go_ldc (q := 20) dX3_soil_18 ko_X3_55 rfl ?_
      refine go_ic1 (q := 23) dX3_soil_20 lk_X3_56 (by decide) (by decide) (Nat.le_of_ble_eq_true rfl) rfl (c_finding (p := 0) (by decide) (by decide) ?_)
      exact go_iret dX3_soil_23 rfl (hB (fun z => h2 z.2) _ (Cf.rf 0))

set_option maxHeartbeats 4000000 in
set_option maxRecDepth 100000 in
theorem c_price {S : St} {N : Nat → Nat → Int64} {X : St} {Y : Nat → Int64} {Q : Option Value → AH → Prop} {x v : Int32} (hw : WF (S 0)) (hB : ¬ (rg x 0 11 ∧ rg v 0 99) → ∀ S', Cf S S' 0 → Q (some (.int (-1000000001))) (hp S' N X Y)) (hO : ∀ i j, i ≤ 11 → j ≤ 99 → x = nI i → v = nI j → ∀ S', Cc S S' (u2 (S 0) 5 i j) → Q (some (.int (nI (S 0 5 i)))) (hp S' N X Y)) : Cn 3 yX3_price cX3_price 4 (some .int) [.ref 0, .int x, .int v] (hp S N X Y) Q := by
  refine cn_of (own := RX3) (lo := [some (.ref 0), some (.int x), some (.int v), none]) 1 rfl (by decide +kernel) rfl (Nat.le_of_ble_eq_true rfl) ?_
  refine go_iloadn1 (q := 1) dX3_price_0 rfl ?_
  refine go_iconstN (n := 0) (q := 2) dX3_price_1 rfl ?_
  refine go_bipushN (v := 11) (q := 4) dX3_price_2 (by decide) rfl ?_
  refine go_is3_ (q := 7) dX3_price_4 lk_X3_51 (by decide) (by decide) (Nat.le_of_ble_eq_true rfl) rfl (c_isWithin (l := 0) (m := 11) (by decide) (by decide) ?_)
  refine go_ifeqB (tgt := 20) (q := 10) dX3_price_7 (by decide) rfl (fun h1 => ?_) (fun h1 => ?_)
  · skip
    refine go_aloadn0 (q := 21) dX3_price_20 rfl ?_
    refine go_ldc (q := 23) dX3_price_21 ko_X3_55 rfl ?_
    refine go_ic1 (q := 26) dX3_price_23 lk_X3_56 (by decide) (by decide) (Nat.le_of_ble_eq_true rfl) rfl (c_finding (p := 0) (by decide) (by decide) ?_)
    exact go_iret dX3_price_26 rfl (hB (fun z => h1 z.1) _ (Cf.rf 0))
  · skip
    refine go_iloadn2 (q := 11) dX3_price_10 rfl ?_
    refine go_iconstN (n := 0) (q := 12) dX3_price_11 rfl ?_
    refine go_bipushN (v := 99) (q := 14) dX3_price_12 (by decide) rfl ?_
    refine go_is3_ (q := 17) dX3_price_14 lk_X3_51 (by decide) (by decide) (Nat.le_of_ble_eq_true rfl) rfl (c_isWithin (l := 0) (m := 99) (by decide) (by decide) ?_)
    refine go_ifneB (tgt := 27) (q := 20) dX3_price_17 (by decide) rfl (fun h2 => ?_) (fun h2 => ?_)
    · skip
      obtain ⟨i, hi, rfl, -, -⟩ := rg_nat (n := 11) h1 (by omega) (by omega)
      obtain ⟨j, hj, rfl, -, -⟩ := rg_nat (n := 99) h2 (by omega) (by omega)
      refine go_aloadn0 (q := 28) dX3_price_27 rfl ?_
      refine go_cg (q := 31) dX3_price_28 fl_X3_10 rfl rfl ?_
      refine go_mg (q := 34) dX3_price_31 fl_X3_63 (by decide) rfl rfl ?_
      refine go_iloadn1 (q := 35) dX3_price_34 rfl ?_
      refine go_mld (q := 36) dX3_price_35 (by decide) (by decide) (show i < 12 by omega) rfl ?_
      refine go_istoren3 (q := 37) dX3_price_36 rfl (by decide) rfl ?_
      refine go_aloadn0 (q := 38) dX3_price_37 rfl ?_
      refine go_cg (q := 41) dX3_price_38 fl_X3_10 rfl rfl ?_
      refine go_mg (q := 44) dX3_price_41 fl_X3_63 (by decide) rfl rfl ?_
      refine go_iloadn1 (q := 45) dX3_price_44 rfl ?_
      refine go_iloadn2 (q := 46) dX3_price_45 rfl ?_
      refine go_mst (q := 47) dX3_price_46 (by decide) (by decide) (show i < 12 by omega) rfl ?_
      refine go_iloadn3 (q := 48) dX3_price_47 rfl ?_
      exact go_iret dX3_price_48 rfl (hO i j hi hj rfl rfl _ (Ch.rf.u 5 i j).here)
    · skip
      refine go_aloadn0 (q := 21) dX3_price_20 rfl ?_
      refine go_ldc (q := 23) dX3_price_21 ko_X3_55 rfl ?_
      refine go_ic1 (q := 26) dX3_price_23 lk_X3_56 (by decide) (by decide) (Nat.le_of_ble_eq_true rfl) rfl (c_finding (p := 0) (by decide) (by decide) ?_)
      exact go_iret dX3_price_26 rfl (hB (fun z => h2 z.2) _ (Cf.rf 0))

set_option maxHeartbeats 4000000 in
set_option maxRecDepth 100000 in
theorem c_coin {S : St} {N : Nat → Nat → Int64} {X : St} {Y : Nat → Int64} {Q : Option Value → AH → Prop} {x y v : Int32} (hw : WF (S 0)) (hB : ¬ (rg x 0 5 ∧ rg y 0 3 ∧ rg v 0 99) → ∀ S', Cf S S' 0 → Q (some (.int (-1000000001))) (hp S' N X Y)) (hF : (rg x 0 5 ∧ rg y 0 3 ∧ rg v 0 99) → ¬ S 0 13 0 < 12 → ∀ S', Cf S S' 1 → Q (some (.int (-1000000002))) (hp S' N X Y)) (hO : S 0 13 0 < 12 → ∀ a b c, a ≤ 5 → b ≤ 3 → c ≤ 99 → x = nI a → y = nI b → v = nI c → ∀ S', Cc S S' (addC (S 0) a b c 0) → Q (some (.int (nI (S 0 13 0)))) (hp S' N X Y)) : Cn 3 yX3_coin cX3_coin 4 (some .int) [.ref 0, .int x, .int y, .int v] (hp S N X Y) Q := by
  refine cn_of (own := RX3) (lo := [some (.ref 0), some (.int x), some (.int y), some (.int v)]) 0 rfl (by decide +kernel) rfl (Nat.le_of_ble_eq_true rfl) ?_
  refine go_iloadn1 (q := 1) dX3_coin_0 rfl ?_
  refine go_is1_ (q := 4) dX3_coin_1 lk_X3_66 (by decide) (by decide) (Nat.le_of_ble_eq_true rfl) rfl (c_isKind ?_)
  refine go_ifeqB (tgt := 24) (q := 7) dX3_coin_4 (by decide) rfl (fun h1 => ?_) (fun h1 => ?_)
  · skip
    refine go_aloadn0 (q := 25) dX3_coin_24 rfl ?_
    refine go_ldc (q := 27) dX3_coin_25 ko_X3_55 rfl ?_
    refine go_ic1 (q := 30) dX3_coin_27 lk_X3_56 (by decide) (by decide) (Nat.le_of_ble_eq_true rfl) rfl (c_finding (p := 0) (by decide) (by decide) ?_)
    exact go_iret dX3_coin_30 rfl (hB (fun z => h1 z.1) _ (Cf.rf 0))
  · skip
    refine go_iloadn2 (q := 8) dX3_coin_7 rfl ?_
    refine go_is1_ (q := 11) dX3_coin_8 lk_X3_47 (by decide) (by decide) (Nat.le_of_ble_eq_true rfl) rfl (c_isOwner ?_)
    refine go_ifeqB (tgt := 24) (q := 14) dX3_coin_11 (by decide) rfl (fun h2 => ?_) (fun h2 => ?_)
    · skip
      refine go_aloadn0 (q := 25) dX3_coin_24 rfl ?_
      refine go_ldc (q := 27) dX3_coin_25 ko_X3_55 rfl ?_
      refine go_ic1 (q := 30) dX3_coin_27 lk_X3_56 (by decide) (by decide) (Nat.le_of_ble_eq_true rfl) rfl (c_finding (p := 0) (by decide) (by decide) ?_)
      exact go_iret dX3_coin_30 rfl (hB (fun z => h2 z.2.1) _ (Cf.rf 0))
    · skip
      refine go_iloadn3 (q := 15) dX3_coin_14 rfl ?_
      refine go_iconstN (n := 0) (q := 16) dX3_coin_15 rfl ?_
      refine go_bipushN (v := 99) (q := 18) dX3_coin_16 (by decide) rfl ?_
      refine go_is3_ (q := 21) dX3_coin_18 lk_X3_51 (by decide) (by decide) (Nat.le_of_ble_eq_true rfl) rfl (c_isWithin (l := 0) (m := 99) (by decide) (by decide) ?_)
      refine go_ifneB (tgt := 31) (q := 24) dX3_coin_21 (by decide) rfl (fun h3 => ?_) (fun h3 => ?_)
      · skip
        refine go_aloadn0 (q := 32) dX3_coin_31 rfl ?_
        refine go_cg (q := 35) dX3_coin_32 fl_X3_10 rfl rfl ?_
        refine go_mg (q := 38) dX3_coin_35 fl_X3_69 (by decide) rfl rfl ?_
        refine go_bipushN (v := 12) (q := 40) dX3_coin_38 (by decide) rfl ?_
        refine go_icmp_ltN (tgt := 50) (q := 43) dX3_coin_40 (by decide) rfl (by have := hw.co; omega) (by omega) (fun h4 => ?_) (fun h4 => ?_)
        · skip
          obtain ⟨a, ha, rfl, -, -⟩ := rg_nat (n := 5) h1 (by omega) (by omega)
          obtain ⟨b, hb, rfl, -, -⟩ := rg_nat (n := 3) h2 (by omega) (by omega)
          obtain ⟨c, hc, rfl, -, -⟩ := rg_nat (n := 99) h3 (by omega) (by omega)
          refine go_aloadn0 (q := 51) dX3_coin_50 rfl ?_
          refine go_cg (q := 54) dX3_coin_51 fl_X3_10 rfl rfl ?_
          refine go_iloadn1 (q := 55) dX3_coin_54 rfl ?_
          refine go_iloadn2 (q := 56) dX3_coin_55 rfl ?_
          refine go_iloadn3 (q := 57) dX3_coin_56 rfl ?_
          refine go_iconstN (n := 0) (q := 58) dX3_coin_57 rfl ?_
          refine go_im4 (q := 61) dX3_coin_58 lk_X3_74 (by decide) (by decide) (Nat.le_of_ble_eq_true rfl) (by decide) rfl (c_addCoin (by decide) h4 (fun S1 g => ?_))
          exact go_iret dX3_coin_61 rfl (hO h4 a b c ha hb hc rfl rfl rfl _ g.here)
        · skip
          refine go_aloadn0 (q := 44) dX3_coin_43 rfl ?_
          refine go_ldc (q := 46) dX3_coin_44 ko_X3_73 rfl ?_
          refine go_ic1 (q := 49) dX3_coin_46 lk_X3_56 (by decide) (by decide) (Nat.le_of_ble_eq_true rfl) rfl (c_finding (p := 1) (by decide) (by decide) ?_)
          exact go_iret dX3_coin_49 rfl (hF ⟨h1, h2, h3⟩ h4 _ (Cf.rf 1))
      · skip
        refine go_aloadn0 (q := 25) dX3_coin_24 rfl ?_
        refine go_ldc (q := 27) dX3_coin_25 ko_X3_55 rfl ?_
        refine go_ic1 (q := 30) dX3_coin_27 lk_X3_56 (by decide) (by decide) (Nat.le_of_ble_eq_true rfl) rfl (c_finding (p := 0) (by decide) (by decide) ?_)
        exact go_iret dX3_coin_30 rfl (hB (fun z => h3 z.2.2) _ (Cf.rf 0))

set_option maxHeartbeats 4000000 in
set_option maxRecDepth 100000 in
theorem c_of {S : St} {N : Nat → Nat → Int64} {X : St} {Y : Nat → Int64} {Q : Option Value → AH → Prop} {x w : Int32} (hw : WF (S 0)) (hB : ¬ (ic (S 0) x ∧ rg w 0 7) → ∀ S', Cf S S' 0 → Q (some (.int (-1000000001))) (hp S' N X Y)) (hO : ∀ c j, c < S 0 13 0 → j ≤ 7 → x = nI c → w = nI j → Q (some (.int (nI (ofV (S 0) c j)))) (hp S N X Y)) : Cn 4 yX3_of cX3_of 3 (some .int) [.ref 0, .int x, .int w] (hp S N X Y) Q := by
  refine cn_of (own := RX3) (lo := [some (.ref 0), some (.int x), some (.int w)]) 0 rfl (by decide +kernel) rfl (Nat.le_of_ble_eq_true rfl) ?_
  refine go_aloadn0 (q := 1) dX3_of_0 rfl ?_
  refine go_iloadn1 (q := 2) dX3_of_1 rfl ?_
  refine go_ic1 (q := 5) dX3_of_2 lk_X3_78 (by decide) (by decide) (Nat.le_of_ble_eq_true rfl) rfl (c_isCoin hw ?_)
  refine go_ifneB (tgt := 15) (q := 8) dX3_of_5 (by decide) rfl (fun h1 => ?_) (fun h1 => ?_)
  · skip
    obtain ⟨c, hc, hc12, rfl⟩ := ic_nat h1 hw
    refine go_iloadn2 (q := 16) dX3_of_15 rfl ?_
    rcases sw_7 w with hwr | rfl | rfl | rfl | rfl | rfl | rfl | rfl | rfl
    · skip
      refine go_tableOut (tgt := 163) dX3_of_16 (by omega) (by decide) ?_
      refine go_aloadn0 (q := 164) dX3_of_163 rfl ?_
      refine go_ldc (q := 166) dX3_of_164 ko_X3_55 rfl ?_
      refine go_ic1 (q := 169) dX3_of_166 lk_X3_56 (by decide) (by decide) (Nat.le_of_ble_eq_true rfl) rfl (c_finding (p := 0) (by decide) (by decide) ?_)
      exact go_iret dX3_of_169 rfl (hB (fun z => hwr z.2) _ (Cf.rf 0))
    · skip
      refine go_tableIn (off := 48) (tgt := 64) dX3_of_16 (by decide) (by decide) (by decide) (by decide) ?_
      refine go_aloadn0 (q := 65) dX3_of_64 rfl ?_
      refine go_cg (q := 68) dX3_of_65 fl_X3_10 rfl rfl ?_
      refine go_mg (q := 71) dX3_of_68 fl_X3_81 (by decide) rfl rfl ?_
      refine go_iloadn1 (q := 72) dX3_of_71 rfl ?_
      refine go_mld (q := 73) dX3_of_72 (by decide) (by decide) hc12 rfl ?_
      exact go_iretN dX3_of_73 rfl (by simp [ofV]) (hO c 0 hc (by decide) rfl rfl)
    · skip
      refine go_tableIn (off := 58) (tgt := 74) dX3_of_16 (by decide) (by decide) (by decide) (by decide) ?_
      refine go_aloadn0 (q := 75) dX3_of_74 rfl ?_
      refine go_cg (q := 78) dX3_of_75 fl_X3_10 rfl rfl ?_
      refine go_mg (q := 81) dX3_of_78 fl_X3_84 (by decide) rfl rfl ?_
      refine go_iloadn1 (q := 82) dX3_of_81 rfl ?_
      refine go_mld (q := 83) dX3_of_82 (by decide) (by decide) hc12 rfl ?_
      exact go_iretN dX3_of_83 rfl (by simp [ofV]) (hO c 1 hc (by decide) rfl rfl)
    · skip
      refine go_tableIn (off := 68) (tgt := 84) dX3_of_16 (by decide) (by decide) (by decide) (by decide) ?_
      refine go_aloadn0 (q := 85) dX3_of_84 rfl ?_
      refine go_cg (q := 88) dX3_of_85 fl_X3_10 rfl rfl ?_
      refine go_mg (q := 91) dX3_of_88 fl_X3_87 (by decide) rfl rfl ?_
      refine go_iloadn1 (q := 92) dX3_of_91 rfl ?_
      refine go_mld (q := 93) dX3_of_92 (by decide) (by decide) hc12 rfl ?_
      exact go_iretN dX3_of_93 rfl (by simp [ofV]) (hO c 2 hc (by decide) rfl rfl)
    · skip
      refine go_tableIn (off := 78) (tgt := 94) dX3_of_16 (by decide) (by decide) (by decide) (by decide) ?_
      refine go_aloadn0 (q := 95) dX3_of_94 rfl ?_
      refine go_cg (q := 98) dX3_of_95 fl_X3_10 rfl rfl ?_
      refine go_mg (q := 101) dX3_of_98 fl_X3_90 (by decide) rfl rfl ?_
      refine go_iloadn1 (q := 102) dX3_of_101 rfl ?_
      refine go_mld (q := 103) dX3_of_102 (by decide) (by decide) hc12 rfl ?_
      exact go_iretN dX3_of_103 rfl (by simp [ofV]) (hO c 3 hc (by decide) rfl rfl)
    · skip
      refine go_tableIn (off := 88) (tgt := 104) dX3_of_16 (by decide) (by decide) (by decide) (by decide) ?_
      refine go_aloadn0 (q := 105) dX3_of_104 rfl ?_
      refine go_cg (q := 108) dX3_of_105 fl_X3_10 rfl rfl ?_
      refine go_iloadn1 (q := 109) dX3_of_108 rfl ?_
      refine go_im1 (q := 112) dX3_of_109 lk_X3_93 (by decide) (by decide) (Nat.le_of_ble_eq_true rfl) (by decide) rfl (c_worthOf (by decide) hw hc12 ?_)
      exact go_iretN dX3_of_112 rfl (by simp [ofV]) (hO c 4 hc (by decide) rfl rfl)
    · skip
      refine go_tableIn (off := 97) (tgt := 113) dX3_of_16 (by decide) (by decide) (by decide) (by decide) ?_
      refine go_aloadn0 (q := 114) dX3_of_113 rfl ?_
      refine go_cg (q := 117) dX3_of_114 fl_X3_10 rfl rfl ?_
      refine go_mg (q := 120) dX3_of_117 fl_X3_81 (by decide) rfl rfl ?_
      refine go_iloadn1 (q := 121) dX3_of_120 rfl ?_
      refine go_mld (q := 122) dX3_of_121 (by decide) (by decide) hc12 rfl ?_
      refine go_aloadn0 (q := 123) dX3_of_122 rfl ?_
      refine go_cg (q := 126) dX3_of_123 fl_X3_10 rfl rfl ?_
      refine go_im0 (q := 129) dX3_of_126 lk_X3_96 (by decide) (by decide) (Nat.le_of_ble_eq_true rfl) (by decide) rfl (c_season (by decide) hw ?_)
      refine go_is2_ (q := 132) dX3_of_129 lk_X3_100 (by decide) (by decide) (Nat.le_of_ble_eq_true rfl) rfl (c_shrinks (hw.kd c) (sea_lt _) ?_)
      exact go_iretN dX3_of_132 rfl (by simp [ofV]) (hO c 5 hc (by decide) rfl rfl)
    · skip
      refine go_tableIn (off := 117) (tgt := 133) dX3_of_16 (by decide) (by decide) (by decide) (by decide) ?_
      refine go_aloadn0 (q := 134) dX3_of_133 rfl ?_
      refine go_cg (q := 137) dX3_of_134 fl_X3_10 rfl rfl ?_
      refine go_iloadn1 (q := 138) dX3_of_137 rfl ?_
      refine go_im1 (q := 141) dX3_of_138 lk_X3_104 (by decide) (by decide) (Nat.le_of_ble_eq_true rfl) (by decide) rfl (c_yieldOf (by decide) hw hc12 ?_)
      exact go_iretN dX3_of_141 rfl (by simp [ofV]) (hO c 6 hc (by decide) rfl rfl)
    · skip
      refine go_tableIn (off := 126) (tgt := 142) dX3_of_16 (by decide) (by decide) (by decide) (by decide) ?_
      refine go_aloadn0 (q := 143) dX3_of_142 rfl ?_
      refine go_cg (q := 146) dX3_of_143 fl_X3_10 rfl rfl ?_
      refine go_mg (q := 149) dX3_of_146 fl_X3_81 (by decide) rfl rfl ?_
      refine go_iloadn1 (q := 150) dX3_of_149 rfl ?_
      refine go_mld (q := 151) dX3_of_150 (by decide) (by decide) hc12 rfl ?_
      refine go_is1_ (q := 154) dX3_of_151 lk_X3_107 (by decide) (by decide) (Nat.le_of_ble_eq_true rfl) rfl (c_turns (hw.kd c) ?_)
      refine go_ifeqB (tgt := 161) (q := 157) dX3_of_154 (by decide) rfl (fun h2 => ?_) (fun h2 => ?_)
      · skip
        refine go_iconstN (n := 0) (q := 162) dX3_of_161 rfl ?_
        exact go_iretN dX3_of_162 rfl (by unfold ofV; simp only [show ¬ (7 < 4) by decide, show ¬ ((7 : Nat) = 4) by decide, show ¬ ((7 : Nat) = 5) by decide, show ¬ ((7 : Nat) = 6) by decide, if_false]; rw [if_pos (by omega)]) (hO c 7 hc (by decide) rfl rfl)
      · skip
        refine go_iconstN (n := 1) (q := 158) dX3_of_157 rfl ?_
        refine go_goto (tgt := 162) dX3_of_158 (by decide) ?_
        exact go_iretN dX3_of_162 rfl (by unfold ofV; simp only [show ¬ (7 < 4) by decide, show ¬ ((7 : Nat) = 4) by decide, show ¬ ((7 : Nat) = 5) by decide, show ¬ ((7 : Nat) = 6) by decide, if_false]; rw [if_neg h2]) (hO c 7 hc (by decide) rfl rfl)
  · skip
    refine go_aloadn0 (q := 9) dX3_of_8 rfl ?_
    refine go_ldc (q := 11) dX3_of_9 ko_X3_55 rfl ?_
    refine go_ic1 (q := 14) dX3_of_11 lk_X3_56 (by decide) (by decide) (Nat.le_of_ble_eq_true rfl) rfl (c_finding (p := 0) (by decide) (by decide) ?_)
    exact go_iret dX3_of_14 rfl (hB (fun z => h1 z.1) _ (Cf.rf 0))

set_option maxHeartbeats 4000000 in
set_option maxRecDepth 100000 in
theorem c_turn {S : St} {N : Nat → Nat → Int64} {X : St} {Y : Nat → Int64} {Q : Option Value → AH → Prop} {x v : Int32} (hw : WF (S 0)) (hB : ¬ (ic (S 0) x ∧ rg v 0 5) → ∀ S', Cf S S' 0 → Q (some (.int (-1000000001))) (hp S' N X Y)) (hO : ∀ c j, c < S 0 13 0 → j ≤ 5 → x = nI c → v = nI j → ∀ S', Cc S S' (u2 (S 0) 0 c j) → Q (some (.int (nI (S 0 0 c)))) (hp S' N X Y)) : Cn 3 yX3_turn cX3_turn 4 (some .int) [.ref 0, .int x, .int v] (hp S N X Y) Q := by
  refine cn_of (own := RX3) (lo := [some (.ref 0), some (.int x), some (.int v), none]) 1 rfl (by decide +kernel) rfl (Nat.le_of_ble_eq_true rfl) ?_
  refine go_aloadn0 (q := 1) dX3_turn_0 rfl ?_
  refine go_iloadn1 (q := 2) dX3_turn_1 rfl ?_
  refine go_ic1 (q := 5) dX3_turn_2 lk_X3_78 (by decide) (by decide) (Nat.le_of_ble_eq_true rfl) rfl (c_isCoin hw ?_)
  refine go_ifeqB (tgt := 15) (q := 8) dX3_turn_5 (by decide) rfl (fun h1 => ?_) (fun h1 => ?_)
  · skip
    refine go_aloadn0 (q := 16) dX3_turn_15 rfl ?_
    refine go_ldc (q := 18) dX3_turn_16 ko_X3_55 rfl ?_
    refine go_ic1 (q := 21) dX3_turn_18 lk_X3_56 (by decide) (by decide) (Nat.le_of_ble_eq_true rfl) rfl (c_finding (p := 0) (by decide) (by decide) ?_)
    exact go_iret dX3_turn_21 rfl (hB (fun z => h1 z.1) _ (Cf.rf 0))
  · skip
    refine go_iloadn2 (q := 9) dX3_turn_8 rfl ?_
    refine go_is1_ (q := 12) dX3_turn_9 lk_X3_66 (by decide) (by decide) (Nat.le_of_ble_eq_true rfl) rfl (c_isKind ?_)
    refine go_ifneB (tgt := 22) (q := 15) dX3_turn_12 (by decide) rfl (fun h2 => ?_) (fun h2 => ?_)
    · skip
      obtain ⟨c, hc, hc12, rfl⟩ := ic_nat h1 hw
      obtain ⟨j, hj, rfl, -, -⟩ := rg_nat (n := 5) h2 (by omega) (by omega)
      refine go_aloadn0 (q := 23) dX3_turn_22 rfl ?_
      refine go_cg (q := 26) dX3_turn_23 fl_X3_10 rfl rfl ?_
      refine go_mg (q := 29) dX3_turn_26 fl_X3_81 (by decide) rfl rfl ?_
      refine go_iloadn1 (q := 30) dX3_turn_29 rfl ?_
      refine go_mld (q := 31) dX3_turn_30 (by decide) (by decide) hc12 rfl ?_
      refine go_istoren3 (q := 32) dX3_turn_31 rfl (by decide) rfl ?_
      refine go_aloadn0 (q := 33) dX3_turn_32 rfl ?_
      refine go_cg (q := 36) dX3_turn_33 fl_X3_10 rfl rfl ?_
      refine go_mg (q := 39) dX3_turn_36 fl_X3_81 (by decide) rfl rfl ?_
      refine go_iloadn1 (q := 40) dX3_turn_39 rfl ?_
      refine go_iloadn2 (q := 41) dX3_turn_40 rfl ?_
      refine go_mst (q := 42) dX3_turn_41 (by decide) (by decide) hc12 rfl ?_
      refine go_iloadn3 (q := 43) dX3_turn_42 rfl ?_
      exact go_iret dX3_turn_43 rfl (hO c j hc hj rfl rfl _ (Ch.rf.u 0 c j).here)
    · skip
      refine go_aloadn0 (q := 16) dX3_turn_15 rfl ?_
      refine go_ldc (q := 18) dX3_turn_16 ko_X3_55 rfl ?_
      refine go_ic1 (q := 21) dX3_turn_18 lk_X3_56 (by decide) (by decide) (Nat.le_of_ble_eq_true rfl) rfl (c_finding (p := 0) (by decide) (by decide) ?_)
      exact go_iret dX3_turn_21 rfl (hB (fun z => h2 z.2) _ (Cf.rf 0))

set_option maxHeartbeats 4000000 in
set_option maxRecDepth 100000 in
theorem c_as {S : St} {N : Nat → Nat → Int64} {X : St} {Y : Nat → Int64} {Q : Option Value → AH → Prop} {x v : Int32} (hw : WF (S 0)) (hB : ¬ (ic (S 0) x ∧ rg v 0 5) → ∀ S', Cf S S' 0 → Q (some (.int (-1000000001))) (hp S' N X Y)) (hK : ∀ c j, c < S 0 13 0 → j ≤ 5 → x = nI c → v = nI j → ¬ isU (S 0 0 c) j → ∀ S', Cf S S' 2 → Q (some (.int (-1000000003))) (hp S' N X Y)) (hO : ∀ c j, c < S 0 13 0 → j ≤ 5 → x = nI c → v = nI j → isU (S 0 0 c) j → Q (some (.int (nI (S 0 2 c)))) (hp S N X Y)) : Cn 3 yX3_as cX3_as 3 (some .int) [.ref 0, .int x, .int v] (hp S N X Y) Q := by
  refine cn_of (own := RX3) (lo := [some (.ref 0), some (.int x), some (.int v)]) 0 rfl (by decide +kernel) rfl (Nat.le_of_ble_eq_true rfl) ?_
  refine go_aloadn0 (q := 1) dX3_as_0 rfl ?_
  refine go_iloadn1 (q := 2) dX3_as_1 rfl ?_
  refine go_ic1 (q := 5) dX3_as_2 lk_X3_78 (by decide) (by decide) (Nat.le_of_ble_eq_true rfl) rfl (c_isCoin hw ?_)
  refine go_ifeqB (tgt := 15) (q := 8) dX3_as_5 (by decide) rfl (fun h1 => ?_) (fun h1 => ?_)
  · skip
    refine go_aloadn0 (q := 16) dX3_as_15 rfl ?_
    refine go_ldc (q := 18) dX3_as_16 ko_X3_55 rfl ?_
    refine go_ic1 (q := 21) dX3_as_18 lk_X3_56 (by decide) (by decide) (Nat.le_of_ble_eq_true rfl) rfl (c_finding (p := 0) (by decide) (by decide) ?_)
    exact go_iret dX3_as_21 rfl (hB (fun z => h1 z.1) _ (Cf.rf 0))
  · skip
    refine go_iloadn2 (q := 9) dX3_as_8 rfl ?_
    refine go_is1_ (q := 12) dX3_as_9 lk_X3_66 (by decide) (by decide) (Nat.le_of_ble_eq_true rfl) rfl (c_isKind ?_)
    refine go_ifneB (tgt := 22) (q := 15) dX3_as_12 (by decide) rfl (fun h2 => ?_) (fun h2 => ?_)
    · skip
      obtain ⟨c, hc, hc12, rfl⟩ := ic_nat h1 hw
      obtain ⟨j, hj, rfl, -, -⟩ := rg_nat (n := 5) h2 (by omega) (by omega)
      refine go_aloadn0 (q := 23) dX3_as_22 rfl ?_
      refine go_cg (q := 26) dX3_as_23 fl_X3_10 rfl rfl ?_
      refine go_mg (q := 29) dX3_as_26 fl_X3_81 (by decide) rfl rfl ?_
      refine go_iloadn1 (q := 30) dX3_as_29 rfl ?_
      refine go_mld (q := 31) dX3_as_30 (by decide) (by decide) hc12 rfl ?_
      refine go_iloadn2 (q := 32) dX3_as_31 rfl ?_
      refine go_is2_ (q := 35) dX3_as_32 lk_X3_110 (by decide) (by decide) (Nat.le_of_ble_eq_true rfl) rfl (c_isUnder (hw.kd c) hj ?_)
      refine go_ifneB (tgt := 45) (q := 38) dX3_as_35 (by decide) rfl (fun h3 => ?_) (fun h3 => ?_)
      · skip
        refine go_aloadn0 (q := 46) dX3_as_45 rfl ?_
        refine go_cg (q := 49) dX3_as_46 fl_X3_10 rfl rfl ?_
        refine go_mg (q := 52) dX3_as_49 fl_X3_87 (by decide) rfl rfl ?_
        refine go_iloadn1 (q := 53) dX3_as_52 rfl ?_
        refine go_mld (q := 54) dX3_as_53 (by decide) (by decide) hc12 rfl ?_
        exact go_iret dX3_as_54 rfl (hO c j hc hj rfl rfl h3)
      · skip
        refine go_aloadn0 (q := 39) dX3_as_38 rfl ?_
        refine go_ldc (q := 41) dX3_as_39 ko_X3_114 rfl ?_
        refine go_ic1 (q := 44) dX3_as_41 lk_X3_56 (by decide) (by decide) (Nat.le_of_ble_eq_true rfl) rfl (c_finding (p := 2) (by decide) (by decide) ?_)
        exact go_iret dX3_as_44 rfl (hK c j hc hj rfl rfl h3 _ (Cf.rf 2))
    · skip
      refine go_aloadn0 (q := 16) dX3_as_15 rfl ?_
      refine go_ldc (q := 18) dX3_as_16 ko_X3_55 rfl ?_
      refine go_ic1 (q := 21) dX3_as_18 lk_X3_56 (by decide) (by decide) (Nat.le_of_ble_eq_true rfl) rfl (c_finding (p := 0) (by decide) (by decide) ?_)
      exact go_iret dX3_as_21 rfl (hB (fun z => h2 z.2) _ (Cf.rf 0))

set_option maxHeartbeats 4000000 in
set_option maxRecDepth 100000 in
theorem c_swap {S : St} {N : Nat → Nat → Int64} {X : St} {Y : Nat → Int64} {Q : Option Value → AH → Prop} {x v : Int32} (hw : WF (S 0)) (hB : ¬ (ic (S 0) x ∧ ic (S 0) v) → ∀ S', Cf S S' 0 → Q (some (.int (-1000000001))) (hp S' N X Y)) (hO : ∀ c j, c < S 0 13 0 → j < S 0 13 0 → x = nI c → v = nI j → ∀ S', Cc S S' (swp (S 0) c j) → Q (some (.int (nI 1))) (hp S' N X Y)) : Cn 3 yX3_swap cX3_swap 3 (some .int) [.ref 0, .int x, .int v] (hp S N X Y) Q := by
  refine cn_of (own := RX3) (lo := [some (.ref 0), some (.int x), some (.int v)]) 0 rfl (by decide +kernel) rfl (Nat.le_of_ble_eq_true rfl) ?_
  refine go_aloadn0 (q := 1) dX3_swap_0 rfl ?_
  refine go_iloadn1 (q := 2) dX3_swap_1 rfl ?_
  refine go_ic1 (q := 5) dX3_swap_2 lk_X3_78 (by decide) (by decide) (Nat.le_of_ble_eq_true rfl) rfl (c_isCoin hw ?_)
  refine go_ifeqB (tgt := 16) (q := 8) dX3_swap_5 (by decide) rfl (fun h1 => ?_) (fun h1 => ?_)
  · skip
    refine go_aloadn0 (q := 17) dX3_swap_16 rfl ?_
    refine go_ldc (q := 19) dX3_swap_17 ko_X3_55 rfl ?_
    refine go_ic1 (q := 22) dX3_swap_19 lk_X3_56 (by decide) (by decide) (Nat.le_of_ble_eq_true rfl) rfl (c_finding (p := 0) (by decide) (by decide) ?_)
    exact go_iret dX3_swap_22 rfl (hB (fun z => h1 z.1) _ (Cf.rf 0))
  · skip
    refine go_aloadn0 (q := 9) dX3_swap_8 rfl ?_
    refine go_iloadn2 (q := 10) dX3_swap_9 rfl ?_
    refine go_ic1 (q := 13) dX3_swap_10 lk_X3_78 (by decide) (by decide) (Nat.le_of_ble_eq_true rfl) rfl (c_isCoin hw ?_)
    refine go_ifneB (tgt := 23) (q := 16) dX3_swap_13 (by decide) rfl (fun h2 => ?_) (fun h2 => ?_)
    · skip
      obtain ⟨c, hc, hc12, rfl⟩ := ic_nat h1 hw
      obtain ⟨j, hj, hj12, rfl⟩ := ic_nat h2 hw
      refine go_aloadn0 (q := 24) dX3_swap_23 rfl ?_
      refine go_cg (q := 27) dX3_swap_24 fl_X3_10 rfl rfl ?_
      refine go_iloadn1 (q := 28) dX3_swap_27 rfl ?_
      refine go_iloadn2 (q := 29) dX3_swap_28 rfl ?_
      refine go_im2 (q := 32) dX3_swap_29 lk_X3_115 (by decide) (by decide) (Nat.le_of_ble_eq_true rfl) (by decide) rfl (c_exchange (by decide) hc12 hj12 (fun S1 g => ?_))
      refine go_iconstN (n := 1) (q := 33) dX3_swap_32 rfl ?_
      exact go_iret dX3_swap_33 rfl (hO c j hc hj rfl rfl _ g.here)
    · skip
      refine go_aloadn0 (q := 17) dX3_swap_16 rfl ?_
      refine go_ldc (q := 19) dX3_swap_17 ko_X3_55 rfl ?_
      refine go_ic1 (q := 22) dX3_swap_19 lk_X3_56 (by decide) (by decide) (Nat.le_of_ble_eq_true rfl) rfl (c_finding (p := 0) (by decide) (by decide) ?_)
      exact go_iret dX3_swap_22 rfl (hB (fun z => h2 z.2) _ (Cf.rf 0))

set_option maxHeartbeats 4000000 in
set_option maxRecDepth 100000 in
theorem c_plant {S : St} {N : Nat → Nat → Int64} {X : St} {Y : Nat → Int64} {Q : Option Value → AH → Prop} {x : Int32} (hw : WF (S 0)) (hB : ¬ ic (S 0) x → ∀ S', Cf S S' 0 → Q (some (.int (-1000000001))) (hp S' N X Y)) (hS : ∀ c, c < S 0 13 0 → x = nI c → ¬ (S 0 3 c = 0 ∧ (2 ≤ sea (S 0) ∧ sea (S 0) ≤ 5)) → ∀ S', Cf S S' 4 → Q (some (.int (-1000000005))) (hp S' N X Y)) (hO : ∀ c, c < S 0 13 0 → x = nI c → (S 0 3 c = 0 ∧ (2 ≤ sea (S 0) ∧ sea (S 0) ≤ 5)) → ∀ S', Cc S S' (u2 (S 0) 3 c 2) → Q (some (.int (nI (S 0 2 c)))) (hp S' N X Y)) : Cn 3 yX3_plant cX3_plant 2 (some .int) [.ref 0, .int x] (hp S N X Y) Q := by
  refine cn_of (own := RX3) (lo := [some (.ref 0), some (.int x)]) 0 rfl (by decide +kernel) rfl (Nat.le_of_ble_eq_true rfl) ?_
  refine go_aloadn0 (q := 1) dX3_plant_0 rfl ?_
  refine go_iloadn1 (q := 2) dX3_plant_1 rfl ?_
  refine go_ic1 (q := 5) dX3_plant_2 lk_X3_78 (by decide) (by decide) (Nat.le_of_ble_eq_true rfl) rfl (c_isCoin hw ?_)
  refine go_ifneB (tgt := 15) (q := 8) dX3_plant_5 (by decide) rfl (fun h1 => ?_) (fun h1 => ?_)
  · skip
    obtain ⟨c, hc, hc12, rfl⟩ := ic_nat h1 hw
    refine go_aloadn0 (q := 16) dX3_plant_15 rfl ?_
    refine go_cg (q := 19) dX3_plant_16 fl_X3_10 rfl rfl ?_
    refine go_mg (q := 22) dX3_plant_19 fl_X3_90 (by decide) rfl rfl ?_
    refine go_iloadn1 (q := 23) dX3_plant_22 rfl ?_
    refine go_mld (q := 24) dX3_plant_23 (by decide) (by decide) hc12 rfl ?_
    refine go_if_neN (tgt := 37) (q := 27) dX3_plant_24 (by decide) rfl (by have := hw.st c; omega) (fun h2 => ?_) (fun h2 => ?_)
    · skip
      refine go_aloadn0 (q := 38) dX3_plant_37 rfl ?_
      refine go_ldc (q := 40) dX3_plant_38 ko_X3_123 rfl ?_
      refine go_ic1 (q := 43) dX3_plant_40 lk_X3_56 (by decide) (by decide) (Nat.le_of_ble_eq_true rfl) rfl (c_finding (p := 4) (by decide) (by decide) ?_)
      exact go_iret dX3_plant_43 rfl (hS c hc rfl (fun z => h2 z.1) _ (Cf.rf 4))
    · skip
      refine go_aloadn0 (q := 28) dX3_plant_27 rfl ?_
      refine go_cg (q := 31) dX3_plant_28 fl_X3_10 rfl rfl ?_
      refine go_im0 (q := 34) dX3_plant_31 lk_X3_119 (by decide) (by decide) (Nat.le_of_ble_eq_true rfl) (by decide) rfl (c_isPlant (by decide) hw ?_)
      refine go_ifneB (tgt := 44) (q := 37) dX3_plant_34 (by decide) rfl (fun h3 => ?_) (fun h3 => ?_)
      · skip
        refine go_aloadn0 (q := 45) dX3_plant_44 rfl ?_
        refine go_cg (q := 48) dX3_plant_45 fl_X3_10 rfl rfl ?_
        refine go_mg (q := 51) dX3_plant_48 fl_X3_90 (by decide) rfl rfl ?_
        refine go_iloadn1 (q := 52) dX3_plant_51 rfl ?_
        refine go_iconstN (n := 2) (q := 53) dX3_plant_52 rfl ?_
        refine go_mst (q := 54) dX3_plant_53 (by decide) (by decide) hc12 rfl ?_
        refine go_aloadn0 (q := 55) dX3_plant_54 rfl ?_
        refine go_cg (q := 58) dX3_plant_55 fl_X3_10 rfl rfl ?_
        refine go_mg (q := 61) dX3_plant_58 fl_X3_87 (by decide) rfl rfl ?_
        refine go_iloadn1 (q := 62) dX3_plant_61 rfl ?_
        refine go_mld (q := 63) dX3_plant_62 (by decide) (by decide) hc12 rfl ?_
        rw [u3_nj _ (by decide)]
        exact go_iret dX3_plant_63 rfl (hO c hc rfl ⟨h2, h3⟩ _ (Ch.rf.u 3 c 2).here)
      · skip
        refine go_aloadn0 (q := 38) dX3_plant_37 rfl ?_
        refine go_ldc (q := 40) dX3_plant_38 ko_X3_123 rfl ?_
        refine go_ic1 (q := 43) dX3_plant_40 lk_X3_56 (by decide) (by decide) (Nat.le_of_ble_eq_true rfl) rfl (c_finding (p := 4) (by decide) (by decide) ?_)
        exact go_iret dX3_plant_43 rfl (hS c hc rfl (fun z => h3 z.2) _ (Cf.rf 4))
  · skip
    refine go_aloadn0 (q := 9) dX3_plant_8 rfl ?_
    refine go_ldc (q := 11) dX3_plant_9 ko_X3_55 rfl ?_
    refine go_ic1 (q := 14) dX3_plant_11 lk_X3_56 (by decide) (by decide) (Nat.le_of_ble_eq_true rfl) rfl (c_finding (p := 0) (by decide) (by decide) ?_)
    exact go_iret dX3_plant_14 rfl (hB h1 _ (Cf.rf 0))

set_option maxHeartbeats 4000000 in
set_option maxRecDepth 100000 in
theorem c_purse {S : St} {N : Nat → Nat → Int64} {X : St} {Y : Nat → Int64} {Q : Option Value → AH → Prop} {x : Int32} (hw : WF (S 0)) (hB : ¬ rg x 0 3 → ∀ S', Cf S S' 0 → Q (some (.int (-1000000001))) (hp S' N X Y)) (hO : ∀ i, i ≤ 3 → x = nI i → Q (some (.int (nI (purse (S 0) i)))) (hp S N X Y)) : Cn 5 yX3_purse cX3_purse 2 (some .int) [.ref 0, .int x] (hp S N X Y) Q := by
  refine cn_of (own := RX3) (lo := [some (.ref 0), some (.int x)]) 0 rfl (by decide +kernel) rfl (Nat.le_of_ble_eq_true rfl) ?_
  refine go_iloadn1 (q := 1) dX3_purse_0 rfl ?_
  refine go_is1_ (q := 4) dX3_purse_1 lk_X3_47 (by decide) (by decide) (Nat.le_of_ble_eq_true rfl) rfl (c_isOwner ?_)
  refine go_ifeqB (tgt := 18) (q := 7) dX3_purse_4 (by decide) rfl (fun h1 => ?_) (fun h1 => ?_)
  · skip
    refine go_aloadn0 (q := 19) dX3_purse_18 rfl ?_
    refine go_ldc (q := 21) dX3_purse_19 ko_X3_55 rfl ?_
    refine go_ic1 (q := 24) dX3_purse_21 lk_X3_56 (by decide) (by decide) (Nat.le_of_ble_eq_true rfl) rfl (c_finding (p := 0) (by decide) (by decide) ?_)
    exact go_iret dX3_purse_24 rfl (hB h1 _ (Cf.rf 0))
  · skip
    obtain ⟨i, hi, rfl, -, -⟩ := rg_nat (n := 3) h1 (by omega) (by omega)
    refine go_aloadn0 (q := 8) dX3_purse_7 rfl ?_
    refine go_cg (q := 11) dX3_purse_8 fl_X3_10 rfl rfl ?_
    refine go_iloadn1 (q := 12) dX3_purse_11 rfl ?_
    refine go_im1 (q := 15) dX3_purse_12 lk_X3_124 (by decide) (by decide) (Nat.le_of_ble_eq_true rfl) (by decide) rfl (c_purseOf (by decide) hw (by omega) ?_)
    refine go_goto (tgt := 24) dX3_purse_15 (by decide) ?_
    exact go_iret dX3_purse_24 rfl (hO i hi rfl)
