theorem go_zretB2 {d : Nat} {own : String} {cc : ByteArray} {nL : Nat} {ret : Option FieldType} {pc : Nat} {lo : List (Option Value)} {h : AH} {Q : Option Value → AH → Prop} {P P' : Prop} [Decidable P] [Decidable P'] (hd : decode cc pc = .ok (.ireturn, 1)) (hr : ret = some .boolean) (he : P ↔ P') (kk : Q (some (.int (bI P'))) h) : Go d own cc nL ret pc lo [.int (bI P)] h Q := by
  have e : bI P = bI P' := by
    by_cases h : P
    · rw [bI_t h, bI_t (he.mp h)]
    · rw [bI_f h, bI_f (fun z => h (he.mpr z))]
  rw [e]
  exact go_zretB hd hr kk

set_option maxHeartbeats 4000000 in
set_option maxRecDepth 100000 in
theorem r_isInL {h : AH} {Q : Option Value → AH → Prop} {v a b : Int64} {x l m : Int} (hx : v.toInt = x) (ha : a.toInt = l) (hb : b.toInt = m) (hQ : Q (some (.int (bI (l ≤ x ∧ x ≤ m)))) h) : Cn 1 yX4_isIn cX4_isIn 6 (some .boolean) [.long v, .long a, .long b] h Q := by
  refine cn_of (own := RX4) (lo := [some (.long v), none, some (.long a), none, some (.long b), none]) 0 rfl (by decide +kernel) rfl (Nat.le_of_ble_eq_true rfl) ?_
  refine go_lloadn0 (q := 1) dX4_isIn_0 rfl ?_
  refine go_lloadn2 (q := 2) dX4_isIn_1 rfl ?_
  refine go_lcmp (q := 3) dX4_isIn_2 rfl ?_
  refine go_if_lt (tgt := 17) (q := 6) dX4_isIn_3 (by decide) rfl (fun h1 => ?_) (fun h1 => ?_)
  · skip
    refine go_iconstN (n := 0) (q := 18) dX4_isIn_17 rfl ?_
    exact go_zretF dX4_isIn_18 rfl (by rw [lg_cmp_lt, Int64.lt_iff_toInt_lt] at h1; omega) hQ
  · skip
    refine go_lloadn0 (q := 7) dX4_isIn_6 rfl ?_
    refine go_lload4 (q := 9) dX4_isIn_7 rfl ?_
    refine go_lcmp (q := 10) dX4_isIn_9 rfl ?_
    refine go_if_gt (tgt := 17) (q := 13) dX4_isIn_10 (by decide) rfl (fun h2 => ?_) (fun h2 => ?_)
    · skip
      refine go_iconstN (n := 0) (q := 18) dX4_isIn_17 rfl ?_
      exact go_zretF dX4_isIn_18 rfl (by rw [lg_cmp_gt, Int64.lt_iff_toInt_lt] at h2; omega) hQ
    · skip
      refine go_iconstN (n := 1) (q := 14) dX4_isIn_13 rfl ?_
      refine go_goto (tgt := 18) dX4_isIn_14 (by decide) ?_
      exact go_zretT dX4_isIn_18 rfl (by rw [lg_cmp_lt, Int64.lt_iff_toInt_lt] at h1; rw [lg_cmp_gt, Int64.lt_iff_toInt_lt] at h2; omega) hQ

theorem r_isIn {h : AH} {Q : Option Value → AH → Prop} {v : Int32} {a b : Int64} {l m : Int} (ha : a.toInt = l) (hb : b.toInt = m) (hQ : Q (some (.int (bI (rg v l m)))) h) : Cn 1 yX4_isIn cX4_isIn 6 (some .boolean) [.long v.toInt64, .long a, .long b] h Q := r_isInL (i64 v) ha hb hQ

set_option maxHeartbeats 4000000 in
set_option maxRecDepth 100000 in
theorem r_finds {S : St} {N : Nat → Nat → Int64} {X : St} {Y : Nat → Int64} {Q : Option Value → AH → Prop} {x : Int32} {p : Nat} (hx : -1000000001 - x = nI p) (hp7 : p < 7) (hQ : Q (some (.int x)) (hp S N (cntX X p) Y)) : Cn 1 yX4_finds cX4_finds 2 (some .int) [.ref 69, .int x] (hp S N X Y) Q := by
  refine cn_of (own := RX4) (lo := [some (.ref 69), some (.int x)]) 0 rfl (by decide +kernel) rfl (Nat.le_of_ble_eq_true rfl) ?_
  refine go_aloadn0 (q := 1) dX4_finds_0 rfl ?_
  refine go_xg (q := 4) dX4_finds_1 fl_X4_19 rfl rfl ?_
  refine go_iconstN (n := 0) (q := 5) dX4_finds_4 rfl ?_
  refine go_dup2 (q := 6) dX4_finds_5 rfl rfl rfl ?_
  refine go_xfld (q := 7) dX4_finds_6 (by decide) rfl ?_
  refine go_iconstN (n := 1) (q := 8) dX4_finds_7 rfl ?_
  refine go_iaddN (q := 9) dX4_finds_8 rfl ?_
  refine go_xfst (q := 10) dX4_finds_9 (by decide) rfl ?_
  refine go_aloadn0 (q := 11) dX4_finds_10 rfl ?_
  refine go_xg (q := 14) dX4_finds_11 fl_X4_19 rfl rfl ?_
  refine go_ldc (q := 16) dX4_finds_14 ko_X4_42 rfl ?_
  refine go_iloadn1 (q := 17) dX4_finds_16 rfl ?_
  refine go_isub (q := 18) dX4_finds_17 rfl ?_
  refine go_st (st' := [.int (nI p), .ref 73]) (by rw [hx]) ?_
  refine go_iconstN (n := 1) (q := 19) dX4_finds_18 rfl ?_
  refine go_iaddN (q := 20) dX4_finds_19 rfl ?_
  refine go_dup2 (q := 21) dX4_finds_20 rfl rfl rfl ?_
  refine go_xfld (q := 22) dX4_finds_21 (show p + 1 < 8 by omega) rfl ?_
  refine go_iconstN (n := 1) (q := 23) dX4_finds_22 rfl ?_
  refine go_iaddN (q := 24) dX4_finds_23 rfl ?_
  refine go_xfst (q := 25) dX4_finds_24 (show p + 1 < 8 by omega) rfl ?_
  refine go_iloadn1 (q := 26) dX4_finds_25 rfl ?_
  exact go_iret dX4_finds_26 rfl hQ

set_option maxHeartbeats 4000000 in
set_option maxRecDepth 100000 in
theorem r_becomes {S : St} {N : Nat → Nat → Int64} {X : St} {Y : Nat → Int64} {Q : Option Value → AH → Prop} {r j i v : Nat} (hr : r < 108 ∧ rj r = j ∧ ri r = i) (hQ : Q (some (.int (nI (X 0 j i)))) (hp S N (u3 X 0 j i v) Y)) : Cn 1 yX4_becomes cX4_becomes 4 (some .int) [.ref 69, .int (nI r), .int (nI v)] (hp S N X Y) Q := by
  refine cn_of (own := RX4) (lo := [some (.ref 69), some (.int (nI r)), some (.int (nI v)), none]) 1 rfl (by decide +kernel) rfl (Nat.le_of_ble_eq_true rfl) ?_
  refine go_aloadn0 (q := 1) dX4_becomes_0 rfl ?_
  refine go_xg (q := 4) dX4_becomes_1 fl_X4_7 rfl rfl ?_
  refine go_iloadn1 (q := 5) dX4_becomes_4 rfl ?_
  refine go_rld (q := 6) dX4_becomes_5 hr rfl ?_
  refine go_istoren3 (q := 7) dX4_becomes_6 rfl (by decide) rfl ?_
  refine go_aloadn0 (q := 8) dX4_becomes_7 rfl ?_
  refine go_xg (q := 11) dX4_becomes_8 fl_X4_7 rfl rfl ?_
  refine go_iloadn1 (q := 12) dX4_becomes_11 rfl ?_
  refine go_iloadn2 (q := 13) dX4_becomes_12 rfl ?_
  refine go_rst (q := 14) dX4_becomes_13 hr rfl ?_
  refine go_iloadn3 (q := 15) dX4_becomes_14 rfl ?_
  exact go_iret dX4_becomes_15 rfl hQ

set_option maxHeartbeats 4000000 in
set_option maxRecDepth 100000 in
theorem r_is {S : St} {N : Nat → Nat → Int64} {X : St} {Y : Nat → Int64} {Q : Option Value → AH → Prop} {c w : Nat} (hc : c < 12) (hw4 : w < 4) (hQ : Q (some (.int (nI (X 0 w c)))) (hp S N X Y)) : Cn 1 yX4_is cX4_is 3 (some .int) [.ref 69, .int (nI c), .int (nI w)] (hp S N X Y) Q := by
  refine cn_of (own := RX4) (lo := [some (.ref 69), some (.int (nI c)), some (.int (nI w))]) 0 rfl (by decide +kernel) rfl (Nat.le_of_ble_eq_true rfl) ?_
  refine go_aloadn0 (q := 1) dX4_is_0 rfl ?_
  refine go_xg (q := 4) dX4_is_1 fl_X4_7 rfl rfl ?_
  refine go_bipushN (v := 20) (q := 6) dX4_is_4 (by decide) rfl ?_
  refine go_iconstN (n := 4) (q := 7) dX4_is_6 rfl ?_
  refine go_iloadn1 (q := 8) dX4_is_7 rfl ?_
  refine go_imulN (q := 9) dX4_is_8 rfl ?_
  refine go_iaddN (q := 10) dX4_is_9 rfl ?_
  refine go_iloadn2 (q := 11) dX4_is_10 rfl ?_
  refine go_iaddN (q := 12) dX4_is_11 rfl ?_
  refine go_rld (q := 13) dX4_is_12 (rr_coin hc hw4) rfl ?_
  exact go_iret dX4_is_13 rfl hQ

set_option maxHeartbeats 4000000 in
set_option maxRecDepth 100000 in
theorem r_puts {S : St} {N : Nat → Nat → Int64} {X : St} {Y : Nat → Int64} {Q : Option Value → AH → Prop} {c w v : Nat} (hc : c < 12) (hw4 : w < 4) (hQ : Q none (hp S N (u3 X 0 w c v) Y)) : Cn 1 yX4_puts cX4_puts 4 none [.ref 69, .int (nI c), .int (nI w), .int (nI v)] (hp S N X Y) Q := by
  refine cn_of (own := RX4) (lo := [some (.ref 69), some (.int (nI c)), some (.int (nI w)), some (.int (nI v))]) 0 rfl (by decide +kernel) rfl (Nat.le_of_ble_eq_true rfl) ?_
  refine go_aloadn0 (q := 1) dX4_puts_0 rfl ?_
  refine go_xg (q := 4) dX4_puts_1 fl_X4_7 rfl rfl ?_
  refine go_bipushN (v := 20) (q := 6) dX4_puts_4 (by decide) rfl ?_
  refine go_iconstN (n := 4) (q := 7) dX4_puts_6 rfl ?_
  refine go_iloadn1 (q := 8) dX4_puts_7 rfl ?_
  refine go_imulN (q := 9) dX4_puts_8 rfl ?_
  refine go_iaddN (q := 10) dX4_puts_9 rfl ?_
  refine go_iloadn2 (q := 11) dX4_puts_10 rfl ?_
  refine go_iaddN (q := 12) dX4_puts_11 rfl ?_
  refine go_iloadn3 (q := 13) dX4_puts_12 rfl ?_
  refine go_rst (q := 14) dX4_puts_13 (rr_coin hc hw4) rfl ?_
  exact go_ret0 dX4_puts_14 rfl hQ

set_option maxHeartbeats 4000000 in
set_option maxRecDepth 100000 in
theorem r_isCoin {S : St} {N : Nat → Nat → Int64} {X : St} {Y : Nat → Int64} {Q : Option Value → AH → Prop} {x : Int32} (hw : WF (X 0)) (hQ : Q (some (.int (bI (ic (X 0) x)))) (hp S N X Y)) : Cn 1 yX4_isCoin cX4_isCoin 2 (some .boolean) [.ref 69, .int x] (hp S N X Y) Q := by
  refine cn_of (own := RX4) (lo := [some (.ref 69), some (.int x)]) 0 rfl (by decide +kernel) rfl (Nat.le_of_ble_eq_true rfl) ?_
  refine go_iloadn1 (q := 1) dX4_isCoin_0 rfl ?_
  refine go_if_lt (tgt := 18) (q := 4) dX4_isCoin_1 (by decide) rfl (fun h1 => ?_) (fun h1 => ?_)
  · skip
    refine go_iconstN (n := 0) (q := 19) dX4_isCoin_18 rfl ?_
    exact go_zretF dX4_isCoin_19 rfl (fun z => ((ic_lt hw.co).mp z).1 h1) hQ
  · skip
    refine go_iloadn1 (q := 5) dX4_isCoin_4 rfl ?_
    refine go_aloadn0 (q := 6) dX4_isCoin_5 rfl ?_
    refine go_xg (q := 9) dX4_isCoin_6 fl_X4_7 rfl rfl ?_
    refine go_iconstN (n := 0) (q := 10) dX4_isCoin_9 rfl ?_
    refine go_rld (q := 11) dX4_isCoin_10 (rr_13 (f := 0) (by decide)) rfl ?_
    refine go_icmp_ge (tgt := 18) (q := 14) dX4_isCoin_11 (by decide) rfl (fun h2 => ?_) (fun h2 => ?_)
    · skip
      refine go_iconstN (n := 0) (q := 19) dX4_isCoin_18 rfl ?_
      exact go_zretF dX4_isCoin_19 rfl (fun z => ((ic_lt hw.co).mp z).2 h2) hQ
    · skip
      refine go_iconstN (n := 1) (q := 15) dX4_isCoin_14 rfl ?_
      refine go_goto (tgt := 19) dX4_isCoin_15 (by decide) ?_
      exact go_zretT dX4_isCoin_19 rfl ((ic_lt hw.co).mpr ⟨h1, h2⟩) hQ

set_option maxHeartbeats 4000000 in
set_option maxRecDepth 100000 in
theorem r_isOwner {h : AH} {Q : Option Value → AH → Prop} {x : Int32} (hQ : Q (some (.int (bI (rg x 0 3)))) h) : Cn 1 yX4_isOwner cX4_isOwner 1 (some .boolean) [.int x] h Q := by
  refine cn_of (own := RX4) (lo := [some (.int x)]) 0 rfl (by decide +kernel) rfl (Nat.le_of_ble_eq_true rfl) ?_
  refine go_iloadn0 (q := 1) dX4_isOwner_0 rfl ?_
  refine go_if_lt (tgt := 13) (q := 4) dX4_isOwner_1 (by decide) rfl (fun h1 => ?_) (fun h1 => ?_)
  · skip
    refine go_iconstN (n := 0) (q := 14) dX4_isOwner_13 rfl ?_
    exact go_zretF dX4_isOwner_14 rfl (fun z => (ow_lt.mp z).1 h1) hQ
  · skip
    refine go_iloadn0 (q := 5) dX4_isOwner_4 rfl ?_
    refine go_iconstN (n := 4) (q := 6) dX4_isOwner_5 rfl ?_
    refine go_icmp_ge (tgt := 13) (q := 9) dX4_isOwner_6 (by decide) rfl (fun h2 => ?_) (fun h2 => ?_)
    · skip
      refine go_iconstN (n := 0) (q := 14) dX4_isOwner_13 rfl ?_
      exact go_zretF dX4_isOwner_14 rfl (fun z => (ow_lt.mp z).2 h2) hQ
    · skip
      refine go_iconstN (n := 1) (q := 10) dX4_isOwner_9 rfl ?_
      refine go_goto (tgt := 14) dX4_isOwner_10 (by decide) ?_
      exact go_zretT dX4_isOwner_14 rfl (ow_lt.mpr ⟨h1, h2⟩) hQ

set_option maxHeartbeats 4000000 in
set_option maxRecDepth 100000 in
theorem r_isSheet {h : AH} {Q : Option Value → AH → Prop} {x : Int32} (hQ : Q (some (.int (bI (rg x 0 3)))) h) : Cn 1 yX4_isSheet cX4_isSheet 1 (some .boolean) [.int x] h Q := by
  refine cn_of (own := RX4) (lo := [some (.int x)]) 0 rfl (by decide +kernel) rfl (Nat.le_of_ble_eq_true rfl) ?_
  refine go_iloadn0 (q := 1) dX4_isSheet_0 rfl ?_
  refine go_if_lt (tgt := 13) (q := 4) dX4_isSheet_1 (by decide) rfl (fun h1 => ?_) (fun h1 => ?_)
  · skip
    refine go_iconstN (n := 0) (q := 14) dX4_isSheet_13 rfl ?_
    exact go_zretF dX4_isSheet_14 rfl (fun z => (ow_lt.mp z).1 h1) hQ
  · skip
    refine go_iloadn0 (q := 5) dX4_isSheet_4 rfl ?_
    refine go_iconstN (n := 4) (q := 6) dX4_isSheet_5 rfl ?_
    refine go_icmp_ge (tgt := 13) (q := 9) dX4_isSheet_6 (by decide) rfl (fun h2 => ?_) (fun h2 => ?_)
    · skip
      refine go_iconstN (n := 0) (q := 14) dX4_isSheet_13 rfl ?_
      exact go_zretF dX4_isSheet_14 rfl (fun z => (ow_lt.mp z).2 h2) hQ
    · skip
      refine go_iconstN (n := 1) (q := 10) dX4_isSheet_9 rfl ?_
      refine go_goto (tgt := 14) dX4_isSheet_10 (by decide) ?_
      exact go_zretT dX4_isSheet_14 rfl (ow_lt.mpr ⟨h1, h2⟩) hQ

set_option maxHeartbeats 4000000 in
set_option maxRecDepth 100000 in
theorem r_season {S : St} {N : Nat → Nat → Int64} {X : St} {Y : Nat → Int64} {Q : Option Value → AH → Prop} (hw : WF (X 0)) (hQ : Q (some (.int (nI (sea (X 0))))) (hp S N X Y)) : Cn 1 yX4_season cX4_season 1 (some .int) [.ref 69] (hp S N X Y) Q := by
  have hm := hw.mo
  refine cn_of (own := RX4) (lo := [some (.ref 69)]) 0 rfl (by decide +kernel) rfl (Nat.le_of_ble_eq_true rfl) ?_
  refine go_aloadn0 (q := 1) dX4_season_0 rfl ?_
  refine go_xg (q := 4) dX4_season_1 fl_X4_7 rfl rfl ?_
  refine go_iconstN (n := 2) (q := 5) dX4_season_4 rfl ?_
  refine go_rld (q := 6) dX4_season_5 (rr_13 (f := 2) (by decide)) rfl ?_
  refine go_bipushN (v := 12) (q := 8) dX4_season_6 (by decide) rfl ?_
  refine go_iremN (q := 9) dX4_season_8 (by decide) (by omega) (by decide) rfl ?_
  exact go_iret dX4_season_9 rfl hQ

set_option maxHeartbeats 4000000 in
set_option maxRecDepth 100000 in
theorem r_isFar {S : St} {N : Nat → Nat → Int64} {X : St} {Y : Nat → Int64} {Q : Option Value → AH → Prop} {n : Nat} (hw : WF (X 0)) (hn : n ≤ 9999) (hQ : Q (some (.int (bI (9999 < X 0 13 2 + n)))) (hp S N X Y)) : Cn 1 yX4_isFar cX4_isFar 2 (some .boolean) [.ref 69, .int (nI n)] (hp S N X Y) Q := by
  have hm := hw.mo
  refine cn_of (own := RX4) (lo := [some (.ref 69), some (.int (nI n))]) 0 rfl (by decide +kernel) rfl (Nat.le_of_ble_eq_true rfl) ?_
  refine go_aloadn0 (q := 1) dX4_isFar_0 rfl ?_
  refine go_xg (q := 4) dX4_isFar_1 fl_X4_7 rfl rfl ?_
  refine go_iconstN (n := 2) (q := 5) dX4_isFar_4 rfl ?_
  refine go_rld (q := 6) dX4_isFar_5 (rr_13 (f := 2) (by decide)) rfl ?_
  refine go_iloadn1 (q := 7) dX4_isFar_6 rfl ?_
  refine go_iaddN (q := 8) dX4_isFar_7 rfl ?_
  refine go_sipushN (v := 9999) (q := 11) dX4_isFar_8 (by decide) rfl ?_
  refine go_icmp_leN (tgt := 18) (q := 14) dX4_isFar_11 (by decide) rfl (by omega) (by omega) (fun h1 => ?_) (fun h1 => ?_)
  · skip
    refine go_iconstN (n := 0) (q := 19) dX4_isFar_18 rfl ?_
    exact go_zretF dX4_isFar_19 rfl (by omega) hQ
  · skip
    refine go_iconstN (n := 1) (q := 15) dX4_isFar_14 rfl ?_
    refine go_goto (tgt := 19) dX4_isFar_15 (by decide) ?_
    exact go_zretT dX4_isFar_19 rfl (by omega) hQ

set_option maxHeartbeats 4000000 in
set_option maxRecDepth 100000 in
theorem r_isBlue {h : AH} {Q : Option Value → AH → Prop} {a : Nat} (ha : a ≤ 5) (hQ : Q (some (.int (bI (blue a)))) h) : Cn 1 yX4_isBlue cX4_isBlue 1 (some .boolean) [.int (nI a)] h Q := by
  refine cn_of (own := RX4) (lo := [some (.int (nI a))]) 0 rfl (by decide +kernel) rfl (Nat.le_of_ble_eq_true rfl) ?_
  refine go_iloadn0 (q := 1) dX4_isBlue_0 rfl ?_
  refine go_iconstN (n := 1) (q := 2) dX4_isBlue_1 rfl ?_
  refine go_icmp_eqN (tgt := 10) (q := 5) dX4_isBlue_2 (by decide) rfl (by omega) (by omega) (fun h1 => ?_) (fun h1 => ?_)
  · skip
    refine go_iconstN (n := 1) (q := 11) dX4_isBlue_10 rfl ?_
    refine go_goto (tgt := 15) dX4_isBlue_11 (by decide) ?_
    exact go_zretT dX4_isBlue_15 rfl (Or.inl h1) hQ
  · skip
    refine go_iloadn0 (q := 6) dX4_isBlue_5 rfl ?_
    refine go_iconstN (n := 5) (q := 7) dX4_isBlue_6 rfl ?_
    refine go_icmp_neN (tgt := 14) (q := 10) dX4_isBlue_7 (by decide) rfl (by omega) (by omega) (fun h2 => ?_) (fun h2 => ?_)
    · skip
      refine go_iconstN (n := 0) (q := 15) dX4_isBlue_14 rfl ?_
      exact go_zretF dX4_isBlue_15 rfl (by omega) hQ
    · skip
      refine go_iconstN (n := 1) (q := 11) dX4_isBlue_10 rfl ?_
      refine go_goto (tgt := 15) dX4_isBlue_11 (by decide) ?_
      exact go_zretT dX4_isBlue_15 rfl (Or.inr h2) hQ

set_option maxHeartbeats 4000000 in
set_option maxRecDepth 100000 in
theorem r_shrinks_22 {S : St} {N : Nat → Nat → Int64} {X : St} {Y : Nat → Int64} {Q : Option Value → AH → Prop} {c kd s p : Nat} (hc : c < 12) (hkd : X 0 0 c = kd) (hk5 : kd ≤ 5) (hp0 : plainS s = p) (hp3 : p ≤ 3) (hQ : Q (some (.int (nI (shr kd s)))) (hp S N X Y)) : Go 2 RX4 cX4_shrinks 3 (some .int) 22 [some (.ref 69), some (.int (nI c)), none] [.int (nI p)] (hp S N X Y) Q := by
  refine go_istoren2 (q := 23) dX4_shrinks_22 rfl (by decide) rfl ?_
  refine go_aloadn0 (q := 24) dX4_shrinks_23 rfl ?_
  refine go_iloadn1 (q := 25) dX4_shrinks_24 rfl ?_
  refine go_iconstN (n := 0) (q := 26) dX4_shrinks_25 rfl ?_
  refine go_ix2 (q := 29) dX4_shrinks_26 lk_X4_84 (by decide) (by decide) (Nat.le_of_ble_eq_true rfl) rfl (r_is hc (by decide) ?_)
  rw [hkd]
  clear hkd
  rcases (show kd = 0 ∨ kd = 1 ∨ kd = 2 ∨ kd = 3 ∨ kd = 4 ∨ kd = 5 by omega) with rfl | rfl | rfl | rfl | rfl | rfl
  · skip
    refine go_tableOut (tgt := 78) dX4_shrinks_29 (by decide) (by decide) ?_
    refine go_iloadn2 (q := 79) dX4_shrinks_78 rfl ?_
    exact go_iretN dX4_shrinks_79 rfl (show shr 0 s = p by simp [shr, hp0]) hQ
  · skip
    refine go_tableIn (off := 35) (tgt := 64) dX4_shrinks_29 (by decide) (by decide) (by decide) (by decide) ?_
    refine go_iloadn2 (q := 65) dX4_shrinks_64 rfl ?_
    refine go_iconstN (n := 3) (q := 66) dX4_shrinks_65 rfl ?_
    refine go_idivN (q := 67) dX4_shrinks_66 (by decide) (by omega) (by decide) rfl ?_
    exact go_iretN dX4_shrinks_67 rfl (show shr 1 s = p / 3 by simp [shr, hp0]) hQ
  · skip
    refine go_tableIn (off := 39) (tgt := 68) dX4_shrinks_29 (by decide) (by decide) (by decide) (by decide) ?_
    refine go_iconstN (n := 2) (q := 69) dX4_shrinks_68 rfl ?_
    refine go_iloadn2 (q := 70) dX4_shrinks_69 rfl ?_
    refine go_imulN (q := 71) dX4_shrinks_70 rfl ?_
    exact go_iretN dX4_shrinks_71 rfl (show shr 2 s = 2 * p by simp [shr, hp0]) hQ
  · skip
    refine go_tableIn (off := 49) (tgt := 78) dX4_shrinks_29 (by decide) (by decide) (by decide) (by decide) ?_
    refine go_iloadn2 (q := 79) dX4_shrinks_78 rfl ?_
    exact go_iretN dX4_shrinks_79 rfl (show shr 3 s = p by simp [shr, hp0]) hQ
  · skip
    refine go_tableIn (off := 43) (tgt := 72) dX4_shrinks_29 (by decide) (by decide) (by decide) (by decide) ?_
    refine go_iconstN (n := 2) (q := 73) dX4_shrinks_72 rfl ?_
    refine go_iloadn2 (q := 74) dX4_shrinks_73 rfl ?_
    refine go_imulN (q := 75) dX4_shrinks_74 rfl ?_
    refine go_iconstN (n := 1) (q := 76) dX4_shrinks_75 rfl ?_
    refine go_iaddN (q := 77) dX4_shrinks_76 rfl ?_
    exact go_iretN dX4_shrinks_77 rfl (show shr 4 s = 2 * p + 1 by simp [shr, hp0]) hQ
  · skip
    refine go_tableIn (off := 35) (tgt := 64) dX4_shrinks_29 (by decide) (by decide) (by decide) (by decide) ?_
    refine go_iloadn2 (q := 65) dX4_shrinks_64 rfl ?_
    refine go_iconstN (n := 3) (q := 66) dX4_shrinks_65 rfl ?_
    refine go_idivN (q := 67) dX4_shrinks_66 (by decide) (by omega) (by decide) rfl ?_
    exact go_iretN dX4_shrinks_67 rfl (show shr 5 s = p / 3 by simp [shr, hp0]) hQ

set_option maxHeartbeats 4000000 in
set_option maxRecDepth 100000 in
theorem r_shrinks {S : St} {N : Nat → Nat → Int64} {X : St} {Y : Nat → Int64} {Q : Option Value → AH → Prop} {c : Nat} (hw : WF (X 0)) (hc : c < 12) (hQ : Q (some (.int (nI (shr (X 0 0 c) (sea (X 0)))))) (hp S N X Y)) : Cn 2 yX4_shrinks cX4_shrinks 3 (some .int) [.ref 69, .int (nI c)] (hp S N X Y) Q := by
  have hs := sea_lt (X 0)
  refine cn_of (own := RX4) (lo := [some (.ref 69), some (.int (nI c)), none]) 1 rfl (by decide +kernel) rfl (Nat.le_of_ble_eq_true rfl) ?_
  refine go_aloadn0 (q := 1) dX4_shrinks_0 rfl ?_
  refine go_ix0 (q := 4) dX4_shrinks_1 lk_X4_76 (by decide) (by decide) (Nat.le_of_ble_eq_true rfl) rfl (r_season hw ?_)
  refine go_i2l (q := 5) dX4_shrinks_4 rfl ?_
  refine go_ldc2 (q := 8) dX4_shrinks_5 ko_X4_80 rfl ?_
  refine go_ldc2 (q := 11) dX4_shrinks_8 ko_X4_82 rfl ?_
  refine go_is3_ (q := 14) dX4_shrinks_11 lk_X4_49 (by decide) (by decide) (Nat.le_of_ble_eq_true rfl) rfl (r_isIn (l := 2) (m := 4) (by decide) (by decide) ?_)
  refine go_ifeqB (tgt := 21) (q := 17) dX4_shrinks_14 (by decide) rfl (fun h1 => ?_) (fun h1 => ?_)
  · skip
    refine go_iconstN (n := 1) (q := 22) dX4_shrinks_21 rfl ?_
    exact r_shrinks_22 hc rfl (hw.kd c) (if_neg (by rw [rg_nI (by omega)] at h1; omega)) (by decide) hQ
  · skip
    refine go_iconstN (n := 3) (q := 18) dX4_shrinks_17 rfl ?_
    refine go_goto (tgt := 22) dX4_shrinks_18 (by decide) ?_
    exact r_shrinks_22 hc rfl (hw.kd c) (if_pos (by rw [rg_nI (by omega)] at h1; omega)) (by decide) hQ

set_option maxHeartbeats 4000000 in
set_option maxRecDepth 100000 in
theorem r_yields_16 {S : St} {N : Nat → Nat → Int64} {X : St} {Y : Nat → Int64} {Q : Option Value → AH → Prop} {c kd s : Nat} (hc : c < 12) (hkd : X 0 0 c = kd) (hk5 : kd ≤ 5) (hQ : Q (some (.int (nI (yld kd s)))) (hp S N X Y)) : Go 2 RX4 cX4_yields 3 (some .int) 16 [some (.ref 69), some (.int (nI c)), some (.int (nI (s + 5)))] [] (hp S N X Y) Q := by
  refine go_aloadn0 (q := 17) dX4_yields_16 rfl ?_
  refine go_iloadn1 (q := 18) dX4_yields_17 rfl ?_
  refine go_iconstN (n := 0) (q := 19) dX4_yields_18 rfl ?_
  refine go_ix2 (q := 22) dX4_yields_19 lk_X4_84 (by decide) (by decide) (Nat.le_of_ble_eq_true rfl) rfl (r_is hc (by decide) ?_)
  rw [hkd]
  clear hkd
  rcases (show kd = 0 ∨ kd = 1 ∨ kd = 2 ∨ kd = 3 ∨ kd = 4 ∨ kd = 5 by omega) with rfl | rfl | rfl | rfl | rfl | rfl
  · skip
    refine go_tableOut (tgt := 66) dX4_yields_22 (by decide) (by decide) ?_
    refine go_iloadn2 (q := 67) dX4_yields_66 rfl ?_
    exact go_iretN dX4_yields_67 rfl (show yld 0 s = s + 5 by simp [yld]) hQ
  · skip
    refine go_tableIn (off := 34) (tgt := 56) dX4_yields_22 (by decide) (by decide) (by decide) (by decide) ?_
    refine go_iloadn2 (q := 57) dX4_yields_56 rfl ?_
    refine go_iconstN (n := 4) (q := 58) dX4_yields_57 rfl ?_
    refine go_isubN (q := 59) dX4_yields_58 (by omega) rfl ?_
    exact go_iretN dX4_yields_59 rfl (show yld 1 s = s + 5 - 4 by simp [yld]) hQ
  · skip
    refine go_tableIn (off := 44) (tgt := 66) dX4_yields_22 (by decide) (by decide) (by decide) (by decide) ?_
    refine go_iloadn2 (q := 67) dX4_yields_66 rfl ?_
    exact go_iretN dX4_yields_67 rfl (show yld 2 s = s + 5 by simp [yld]) hQ
  · skip
    refine go_tableIn (off := 38) (tgt := 60) dX4_yields_22 (by decide) (by decide) (by decide) (by decide) ?_
    refine go_iloadn2 (q := 61) dX4_yields_60 rfl ?_
    refine go_iconstN (n := 3) (q := 62) dX4_yields_61 rfl ?_
    refine go_iaddN (q := 63) dX4_yields_62 rfl ?_
    exact go_iretN dX4_yields_63 rfl (show yld 3 s = s + 5 + 3 by simp [yld]) hQ
  · skip
    refine go_tableIn (off := 42) (tgt := 64) dX4_yields_22 (by decide) (by decide) (by decide) (by decide) ?_
    refine go_iconstN (n := 0) (q := 65) dX4_yields_64 rfl ?_
    exact go_iretN dX4_yields_65 rfl (show yld 4 s = 0 by simp [yld]) hQ
  · skip
    refine go_tableIn (off := 34) (tgt := 56) dX4_yields_22 (by decide) (by decide) (by decide) (by decide) ?_
    refine go_iloadn2 (q := 57) dX4_yields_56 rfl ?_
    refine go_iconstN (n := 4) (q := 58) dX4_yields_57 rfl ?_
    refine go_isubN (q := 59) dX4_yields_58 (by omega) rfl ?_
    exact go_iretN dX4_yields_59 rfl (show yld 5 s = s + 5 - 4 by simp [yld]) hQ

set_option maxHeartbeats 4000000 in
set_option maxRecDepth 100000 in
theorem r_yields {S : St} {N : Nat → Nat → Int64} {X : St} {Y : Nat → Int64} {Q : Option Value → AH → Prop} {c : Nat} (hw : WF (X 0)) (hc : c < 12) (hQ : Q (some (.int (nI (yld (X 0 0 c) (X 0 4 (X 0 1 c)))))) (hp S N X Y)) : Cn 2 yX4_yields cX4_yields 3 (some .int) [.ref 69, .int (nI c)] (hp S N X Y) Q := by
  have ho := hw.ow c
  refine cn_of (own := RX4) (lo := [some (.ref 69), some (.int (nI c)), none]) 1 rfl (by decide +kernel) rfl (Nat.le_of_ble_eq_true rfl) ?_
  refine go_aloadn0 (q := 1) dX4_yields_0 rfl ?_
  refine go_xg (q := 4) dX4_yields_1 fl_X4_7 rfl rfl ?_
  refine go_iconstN (n := 4) (q := 5) dX4_yields_4 rfl ?_
  refine go_aloadn0 (q := 6) dX4_yields_5 rfl ?_
  refine go_iloadn1 (q := 7) dX4_yields_6 rfl ?_
  refine go_iconstN (n := 1) (q := 8) dX4_yields_7 rfl ?_
  refine go_ix2 (q := 11) dX4_yields_8 lk_X4_84 (by decide) (by decide) (Nat.le_of_ble_eq_true rfl) rfl (r_is hc (by decide) ?_)
  refine go_iaddN (q := 12) dX4_yields_11 rfl ?_
  refine go_rld (q := 13) dX4_yields_12 (rr_soil (show X 0 1 c < 4 by omega)) rfl ?_
  refine go_iconstN (n := 5) (q := 14) dX4_yields_13 rfl ?_
  refine go_iaddN (q := 15) dX4_yields_14 rfl ?_
  refine go_istoren2 (q := 16) dX4_yields_15 rfl (by decide) rfl ?_
  exact r_yields_16 hc rfl (hw.kd c) hQ

set_option maxHeartbeats 4000000 in
set_option maxRecDepth 100000 in
theorem r_worth {S : St} {N : Nat → Nat → Int64} {X : St} {Y : Nat → Int64} {Q : Option Value → AH → Prop} {c : Nat} (hw : WF (X 0)) (hc : c < 12) (hQ : Q (some (.int (nI (wrt (X 0) c)))) (hp S N X Y)) : Cn 2 yX4_worth cX4_worth 2 (some .int) [.ref 69, .int (nI c)] (hp S N X Y) Q := by
  refine cn_of (own := RX4) (lo := [some (.ref 69), some (.int (nI c))]) 0 rfl (by decide +kernel) rfl (Nat.le_of_ble_eq_true rfl) ?_
  refine go_aloadn0 (q := 1) dX4_worth_0 rfl ?_
  refine go_iloadn1 (q := 2) dX4_worth_1 rfl ?_
  refine go_iconstN (n := 3) (q := 3) dX4_worth_2 rfl ?_
  refine go_ix2 (q := 6) dX4_worth_3 lk_X4_84 (by decide) (by decide) (Nat.le_of_ble_eq_true rfl) rfl (r_is hc (by decide) ?_)
  refine go_if_neN (tgt := 34) (q := 9) dX4_worth_6 (by decide) rfl (by have := hw.st c; omega) (fun h1 => ?_) (fun h1 => ?_)
  · skip
    refine go_iconstN (n := 0) (q := 35) dX4_worth_34 rfl ?_
    exact go_iretN dX4_worth_35 rfl (if_neg h1) hQ
  · skip
    refine go_aloadn0 (q := 10) dX4_worth_9 rfl ?_
    refine go_iloadn1 (q := 11) dX4_worth_10 rfl ?_
    refine go_iconstN (n := 2) (q := 12) dX4_worth_11 rfl ?_
    refine go_ix2 (q := 15) dX4_worth_12 lk_X4_84 (by decide) (by decide) (Nat.le_of_ble_eq_true rfl) rfl (r_is hc (by decide) ?_)
    refine go_aloadn0 (q := 16) dX4_worth_15 rfl ?_
    refine go_xg (q := 19) dX4_worth_16 fl_X4_7 rfl rfl ?_
    refine go_bipushN (v := 8) (q := 21) dX4_worth_19 (by decide) rfl ?_
    refine go_aloadn0 (q := 22) dX4_worth_21 rfl ?_
    refine go_ix0 (q := 25) dX4_worth_22 lk_X4_76 (by decide) (by decide) (Nat.le_of_ble_eq_true rfl) rfl (r_season hw ?_)
    refine go_iaddN (q := 26) dX4_worth_25 rfl ?_
    refine go_rld (q := 27) dX4_worth_26 (rr_price (sea_lt (X 0))) rfl ?_
    refine go_imulN (q := 28) dX4_worth_27 rfl ?_
    refine go_bipushN (v := 10) (q := 30) dX4_worth_28 (by decide) rfl ?_
    refine go_idivN (q := 31) dX4_worth_30 (by decide) (Nat.lt_of_le_of_lt (Nat.mul_le_mul (hw.sz c) (hw.pr _)) (by decide)) (by decide) rfl ?_
    refine go_goto (tgt := 35) dX4_worth_31 (by decide) ?_
    exact go_iretN dX4_worth_35 rfl (if_pos h1) hQ

set_option maxHeartbeats 4000000 in
set_option maxRecDepth 100000 in
theorem r_isUnder {h : AH} {Q : Option Value → AH → Prop} {a b : Nat} (ha : a ≤ 5) (hb : b ≤ 5) (hQ : Q (some (.int (bI (isU a b)))) h) : Cn 1 yX4_isUnder cX4_isUnder 2 (some .boolean) [.int (nI a), .int (nI b)] h Q := by
  refine cn_of (own := RX4) (lo := [some (.int (nI a)), some (.int (nI b))]) 0 rfl (by decide +kernel) rfl (Nat.le_of_ble_eq_true rfl) ?_
  refine go_iloadn0 (q := 1) dX4_isUnder_0 rfl ?_
  refine go_iloadn1 (q := 2) dX4_isUnder_1 rfl ?_
  refine go_icmp_eqN (tgt := 29) (q := 5) dX4_isUnder_2 (by decide) rfl (by omega) (by omega) (fun hc => ?_) (fun hc => ?_)
  · skip
    refine go_iconstN (n := 1) (q := 30) dX4_isUnder_29 rfl ?_
    refine go_goto (tgt := 34) dX4_isUnder_30 (by decide) ?_
    exact go_zretT dX4_isUnder_34 rfl (by omega) hQ
  · skip
    refine go_iloadn1 (q := 6) dX4_isUnder_5 rfl ?_
    refine go_if_eqN (tgt := 29) (q := 9) dX4_isUnder_6 (by decide) rfl (by omega) (fun hc => ?_) (fun hc => ?_)
    · skip
      refine go_iconstN (n := 1) (q := 30) dX4_isUnder_29 rfl ?_
      refine go_goto (tgt := 34) dX4_isUnder_30 (by decide) ?_
      exact go_zretT dX4_isUnder_34 rfl (by omega) hQ
    · skip
      refine go_iloadn1 (q := 10) dX4_isUnder_9 rfl ?_
      refine go_iconstN (n := 1) (q := 11) dX4_isUnder_10 rfl ?_
      refine go_icmp_neN (tgt := 19) (q := 14) dX4_isUnder_11 (by decide) rfl (by omega) (by omega) (fun hc => ?_) (fun hc => ?_)
      · skip
        refine go_iloadn1 (q := 20) dX4_isUnder_19 rfl ?_
        refine go_iconstN (n := 2) (q := 21) dX4_isUnder_20 rfl ?_
        refine go_icmp_neN (tgt := 33) (q := 24) dX4_isUnder_21 (by decide) rfl (by omega) (by omega) (fun hc => ?_) (fun hc => ?_)
        · skip
          refine go_iconstN (n := 0) (q := 34) dX4_isUnder_33 rfl ?_
          exact go_zretF dX4_isUnder_34 rfl (by omega) hQ
        · skip
          refine go_iloadn0 (q := 25) dX4_isUnder_24 rfl ?_
          refine go_iconstN (n := 4) (q := 26) dX4_isUnder_25 rfl ?_
          refine go_icmp_neN (tgt := 33) (q := 29) dX4_isUnder_26 (by decide) rfl (by omega) (by omega) (fun hc => ?_) (fun hc => ?_)
          · skip
            refine go_iconstN (n := 0) (q := 34) dX4_isUnder_33 rfl ?_
            exact go_zretF dX4_isUnder_34 rfl (by omega) hQ
          · skip
            refine go_iconstN (n := 1) (q := 30) dX4_isUnder_29 rfl ?_
            refine go_goto (tgt := 34) dX4_isUnder_30 (by decide) ?_
            exact go_zretT dX4_isUnder_34 rfl (by omega) hQ
      · skip
        refine go_iloadn0 (q := 15) dX4_isUnder_14 rfl ?_
        refine go_iconstN (n := 5) (q := 16) dX4_isUnder_15 rfl ?_
        refine go_icmp_eqN (tgt := 29) (q := 19) dX4_isUnder_16 (by decide) rfl (by omega) (by omega) (fun hc => ?_) (fun hc => ?_)
        · skip
          refine go_iconstN (n := 1) (q := 30) dX4_isUnder_29 rfl ?_
          refine go_goto (tgt := 34) dX4_isUnder_30 (by decide) ?_
          exact go_zretT dX4_isUnder_34 rfl (by omega) hQ
        · skip
          refine go_iloadn1 (q := 20) dX4_isUnder_19 rfl ?_
          refine go_iconstN (n := 2) (q := 21) dX4_isUnder_20 rfl ?_
          refine go_icmp_neN (tgt := 33) (q := 24) dX4_isUnder_21 (by decide) rfl (by omega) (by omega) (fun hc => ?_) (fun hc => ?_)
          · skip
            refine go_iconstN (n := 0) (q := 34) dX4_isUnder_33 rfl ?_
            exact go_zretF dX4_isUnder_34 rfl (by omega) hQ
          · skip
            refine go_iloadn0 (q := 25) dX4_isUnder_24 rfl ?_
            refine go_iconstN (n := 4) (q := 26) dX4_isUnder_25 rfl ?_
            refine go_icmp_neN (tgt := 33) (q := 29) dX4_isUnder_26 (by decide) rfl (by omega) (by omega) (fun hc => ?_) (fun hc => ?_)
            · skip
              refine go_iconstN (n := 0) (q := 34) dX4_isUnder_33 rfl ?_
              exact go_zretF dX4_isUnder_34 rfl (by omega) hQ
            · skip
              refine go_iconstN (n := 1) (q := 30) dX4_isUnder_29 rfl ?_
              refine go_goto (tgt := 34) dX4_isUnder_30 (by decide) ?_
              exact go_zretT dX4_isUnder_34 rfl (by omega) hQ

set_option maxHeartbeats 4000000 in
set_option maxRecDepth 100000 in
theorem r_isSpring {S : St} {N : Nat → Nat → Int64} {X : St} {Y : Nat → Int64} {Q : Option Value → AH → Prop} (hw : WF (X 0)) (hQ : Q (some (.int (bI (2 ≤ sea (X 0) ∧ sea (X 0) ≤ 5)))) (hp S N X Y)) : Cn 2 yX4_isSpring cX4_isSpring 1 (some .boolean) [.ref 69] (hp S N X Y) Q := by
  have hs := sea_lt (X 0)
  refine cn_of (own := RX4) (lo := [some (.ref 69)]) 0 rfl (by decide +kernel) rfl (Nat.le_of_ble_eq_true rfl) ?_
  refine go_aloadn0 (q := 1) dX4_isSpring_0 rfl ?_
  refine go_ix0 (q := 4) dX4_isSpring_1 lk_X4_76 (by decide) (by decide) (Nat.le_of_ble_eq_true rfl) rfl (r_season hw ?_)
  refine go_i2l (q := 5) dX4_isSpring_4 rfl ?_
  refine go_ldc2 (q := 8) dX4_isSpring_5 ko_X4_80 rfl ?_
  refine go_ldc2 (q := 11) dX4_isSpring_8 ko_X4_69 rfl ?_
  refine go_is3_ (q := 14) dX4_isSpring_11 lk_X4_49 (by decide) (by decide) (Nat.le_of_ble_eq_true rfl) rfl (r_isIn (l := 2) (m := 5) (by decide) (by decide) ?_)
  exact go_zretB2 dX4_isSpring_14 rfl (by rw [rg_nI (by omega)]; omega) hQ

set_option maxHeartbeats 4000000 in
set_option maxRecDepth 100000 in
theorem r_copyRow_2 {S : St} {N : Nat → Nat → Int64} {X : St} {Y : Nat → Int64} {Q : Option Value → AH → Prop} {a b : Nat} (ha : a < 3) (hb : b < 3) (hab : a ≠ b) (hQ : Q none (hp S N (uk X b (X a)) Y)) : ∀ (fu : Nat) (c : Nat) (X1 : St), 108 - c < fu → (c ≤ 108) → (∀ k, k ≠ b → X1 k = X k) → (∀ r, r < c → nI (rowOf (X1 b) r) = nI (rowOf (X a) r)) → Go 1 RX4 cX4_copyRow 3 none 2 [some (.ref (70 + a)), some (.ref (70 + b)), some (.int (nI c))] [] (hp S N X1 Y) Q := by
  intro fu
  induction fu with
  | zero => intro c X1 hfu; exact absurd hfu (Nat.not_lt_zero _)
  | succ fu ih =>
    intro c X1 hfu hc ho hr
    refine go_iloadn2 (q := 3) dX4_copyRow_2 rfl ?_
    refine go_bipushN (v := 108) (q := 5) dX4_copyRow_3 (by decide) rfl ?_
    refine go_icmp_geN (tgt := 20) (q := 8) dX4_copyRow_5 (by decide) rfl (by omega) (by omega) (fun h1 => ?_) (fun h1 => ?_)
    · skip
      exact go_ret0 dX4_copyRow_20 rfl (by rw [hp_uk hb (M := X a) (fun r hr2 => hr r (by omega)), show uk X1 b (X a) = uk X b (X a) from funext fun k => by unfold uk; by_cases e : k = b; rw [if_pos e, if_pos e]; rw [if_neg e, if_neg e, ho k e]]; exact hQ)
    · skip
      refine go_aloadn1 (q := 9) dX4_copyRow_8 rfl ?_
      refine go_iloadn2 (q := 10) dX4_copyRow_9 rfl ?_
      refine go_aloadn0 (q := 11) dX4_copyRow_10 rfl ?_
      refine go_iloadn2 (q := 12) dX4_copyRow_11 rfl ?_
      refine go_rlda (q := 13) dX4_copyRow_12 ha (by omega) rfl ?_
      refine go_rsta (q := 14) dX4_copyRow_13 hb (by omega) rfl ?_
      refine go_iincN2 (n := 1) (q := 17) dX4_copyRow_14 rfl (by decide) rfl ?_
      refine go_goto (tgt := 2) dX4_copyRow_17 (by decide) ?_
      exact ih (c + 1) _ (by omega) (by omega) (fun k hk => by rw [u3_oth _ hk]; exact ho k hk) (fun r hr2 => by rw [rw_set (by omega)]; by_cases e : r = c; rw [if_pos e, e, ho a hab]; rw [if_neg e]; exact hr r (by omega))

set_option maxHeartbeats 4000000 in
set_option maxRecDepth 100000 in
theorem r_copyRow {S : St} {N : Nat → Nat → Int64} {X : St} {Y : Nat → Int64} {Q : Option Value → AH → Prop} {a b : Nat} (ha : a < 3) (hb : b < 3) (hab : a ≠ b) (hQ : Q none (hp S N (uk X b (X a)) Y)) : Cn 1 yX4_copyRow cX4_copyRow 3 none [.ref (70 + a), .ref (70 + b)] (hp S N X Y) Q := by
  refine cn_of (own := RX4) (lo := [some (.ref (70 + a)), some (.ref (70 + b)), none]) 1 rfl (by decide +kernel) rfl (Nat.le_of_ble_eq_true rfl) ?_
  refine go_iconstN (n := 0) (q := 1) dX4_copyRow_0 rfl ?_
  refine go_istoren2 (q := 2) dX4_copyRow_1 rfl (by decide) rfl ?_
  exact r_copyRow_2 ha hb hab hQ 109 0 X (by omega) (by omega) (fun _ _ => rfl) (fun r hr2 => absurd hr2 (Nat.not_lt_zero r))

set_option maxHeartbeats 4000000 in
set_option maxRecDepth 100000 in
theorem r_laysBy {S : St} {N : Nat → Nat → Int64} {X : St} {Y : Nat → Int64} {Q : Option Value → AH → Prop} (hQ : Q none (hp S N (uk X 2 (X 0)) Y)) : Cn 2 yX4_laysBy cX4_laysBy 1 none [.ref 69] (hp S N X Y) Q := by
  refine cn_of (own := RX4) (lo := [some (.ref 69)]) 0 rfl (by decide +kernel) rfl (Nat.le_of_ble_eq_true rfl) ?_
  refine go_aloadn0 (q := 1) dX4_laysBy_0 rfl ?_
  refine go_xg (q := 4) dX4_laysBy_1 fl_X4_7 rfl rfl ?_
  refine go_aloadn0 (q := 5) dX4_laysBy_4 rfl ?_
  refine go_xg (q := 8) dX4_laysBy_5 fl_X4_16 rfl rfl ?_
  refine go_is2_ (q := 11) dX4_laysBy_8 lk_X4_156 (by decide) (by decide) (Nat.le_of_ble_eq_true rfl) rfl (r_copyRow (a := 0) (b := 2) (by decide) (by decide) (by decide) ?_)
  exact go_ret0 dX4_laysBy_11 rfl hQ

set_option maxHeartbeats 4000000 in
set_option maxRecDepth 100000 in
theorem r_laysBack {S : St} {N : Nat → Nat → Int64} {X : St} {Y : Nat → Int64} {Q : Option Value → AH → Prop} (hQ : Q none (hp S N (uk X 0 (X 2)) Y)) : Cn 2 yX4_laysBack cX4_laysBack 1 none [.ref 69] (hp S N X Y) Q := by
  refine cn_of (own := RX4) (lo := [some (.ref 69)]) 0 rfl (by decide +kernel) rfl (Nat.le_of_ble_eq_true rfl) ?_
  refine go_aloadn0 (q := 1) dX4_laysBack_0 rfl ?_
  refine go_xg (q := 4) dX4_laysBack_1 fl_X4_16 rfl rfl ?_
  refine go_aloadn0 (q := 5) dX4_laysBack_4 rfl ?_
  refine go_xg (q := 8) dX4_laysBack_5 fl_X4_7 rfl rfl ?_
  refine go_is2_ (q := 11) dX4_laysBack_8 lk_X4_156 (by decide) (by decide) (Nat.le_of_ble_eq_true rfl) rfl (r_copyRow (a := 2) (b := 0) (by decide) (by decide) (by decide) ?_)
  exact go_ret0 dX4_laysBack_11 rfl hQ
