theorem kS_lt {k : Nat} (h : k < 6) : kS k < nStr := (by decide : ∀ k, k < 6 → kS k < 15) k h
theorem kn_is {T : Mk} {k : Nat} (hk : k < 6) (h : wd T (kS k)) (hall : ∀ d, d < k → ¬ wd T (kS d)) : kn T = k := by
  unfold kn
  have a0 : 0 < k → ¬ wd T 5 := fun z => hall 0 z
  have a1 : 1 < k → ¬ wd T 0 := fun z => hall 1 z
  have a2 : 2 < k → ¬ wd T 1 := fun z => hall 2 z
  have a3 : 3 < k → ¬ wd T 2 := fun z => hall 3 z
  have a4 : 4 < k → ¬ wd T 3 := fun z => hall 4 z
  obtain rfl | rfl | rfl | rfl | rfl | rfl : k = 0 ∨ k = 1 ∨ k = 2 ∨ k = 3 ∨ k = 4 ∨ k = 5 := by omega
  · exact if_pos h
  · rw [if_neg (a0 (by decide))]; exact if_pos h
  · rw [if_neg (a0 (by decide)), if_neg (a1 (by decide))]; exact if_pos h
  · rw [if_neg (a0 (by decide)), if_neg (a1 (by decide)), if_neg (a2 (by decide))]; exact if_pos h
  · rw [if_neg (a0 (by decide)), if_neg (a1 (by decide)), if_neg (a2 (by decide)), if_neg (a3 (by decide))]; exact if_pos h
  · rw [if_neg (a0 (by decide)), if_neg (a1 (by decide)), if_neg (a2 (by decide)), if_neg (a3 (by decide)), if_neg (a4 (by decide))]; exact if_pos h
theorem kn_yes {T : Mk} {k : Nat} (hk : k < 6) (h : wd T (kS k)) (hall : ∀ d, d < k → ¬ wd T (kS d)) : (if kn T < 6 then nI (kn T) else (-1 : Int32)) = nI k := by
  rw [kn_is hk h hall, if_pos hk]
theorem kn_no {T : Mk} (hall : ∀ d, d < 6 → ¬ wd T (kS d)) : (if kn T < 6 then nI (kn T) else (-1 : Int32)) = -1 := by
  have e : kn T = 6 := by
    unfold kn
    rw [if_neg (show ¬ wd T 5 from hall 0 (by decide)), if_neg (show ¬ wd T 0 from hall 1 (by decide)), if_neg (show ¬ wd T 1 from hall 2 (by decide)), if_neg (show ¬ wd T 2 from hall 3 (by decide)), if_neg (show ¬ wd T 3 from hall 4 (by decide)), if_neg (show ¬ wd T 4 from hall 5 (by decide))]
  rw [e]
  rfl

set_option maxHeartbeats 4000000 in
set_option maxRecDepth 100000 in
theorem c_isWord_28 {S : St} {N : Nat → Nat → Int64} {X : St} {Y : Nat → Int64} {Q : Option Value → AH → Prop} {j : Nat} (hG : tpG (S 4)) (hj : j < nStr) (hQ : Q (some (.int (bI (wd (S 4) j)))) (hp S N X Y)) (h1 : S 4 1 1 = 1) (h2 : S 4 1 3 - S 4 1 2 = sL j) : ∀ (fu : Nat) (i : Nat), sL j - i < fu → (i ≤ sL j) → (∀ d, d < i → S 4 0 (S 4 1 2 + d) = sN j d) → Go 5 RX2 cX2_isWord 3 (some .boolean) 28 [some (.ref 57), some (.ref (1000 + j)), some (.int (nI i))] [] (hp S N X Y) Q := by
  intro fu
  induction fu with
  | zero => intro i hfu; exact absurd hfu (Nat.not_lt_zero _)
  | succ fu ih =>
    intro i hfu hi hall
    obtain ⟨hT, hse, heL, ha, hk4⟩ := hG
    have hL := hT.1
    have h7 := sL_le hj
    refine go_iloadn2 (q := 29) dX2_isWord_28 rfl ?_
    refine go_aloadn1 (q := 30) dX2_isWord_29 rfl ?_
    refine go_io0 (q := 33) dX2_isWord_30 lk_X2_121 rfl (by decide) (by decide) (Nat.le_of_ble_eq_true rfl) hj rfl (c_strlen hj ?_)
    refine go_icmp_geN (tgt := 62) (q := 36) dX2_isWord_33 (by decide) rfl (by omega) (by omega) (fun h3 => ?_) (fun h3 => ?_)
    · skip
      refine go_iconstN (n := 1) (q := 63) dX2_isWord_62 rfl ?_
      exact go_zretT dX2_isWord_63 rfl ⟨h1, h2, fun d hd => hall d (by omega)⟩ hQ
    · skip
      refine go_aloadn0 (q := 37) dX2_isWord_36 rfl ?_
      refine go_aloadn0 (q := 38) dX2_isWord_37 rfl ?_
      refine go_tg (q := 41) dX2_isWord_38 fl_X2_29 rfl rfl ?_
      refine go_iloadn2 (q := 42) dX2_isWord_41 rfl ?_
      refine go_iaddN (q := 43) dX2_isWord_42 rfl ?_
      refine go_it1 (q := 46) dX2_isWord_43 lk_X2_125 (by decide) (by decide) (Nat.le_of_ble_eq_true rfl) rfl (c_byteAt (by omega) (by omega) ?_)
      rw [bt_y (by omega)]
      have hb := hT.2 (S 4 1 2 + i) (by omega)
      refine go_aloadn1 (q := 47) dX2_isWord_46 rfl ?_
      refine go_iloadn2 (q := 48) dX2_isWord_47 rfl ?_
      refine go_io1 (q := 51) dX2_isWord_48 lk_X2_129 rfl (by decide) (by decide) (Nat.le_of_ble_eq_true rfl) hj rfl (c_charAt hj (by omega) ?_)
      have hs := sN_le (j := j) (i := i) hj (by omega)
      refine go_icmp_eqN (tgt := 56) (q := 54) dX2_isWord_51 (by decide) rfl (by omega) (by omega) (fun h4 => ?_) (fun h4 => ?_)
      · skip
        refine go_iincN2 (n := 1) (q := 59) dX2_isWord_56 rfl (by decide) rfl ?_
        refine go_goto (tgt := 28) dX2_isWord_59 (by decide) ?_
        exact ih (i + 1) (by omega) (by omega) (fun d hd => by rcases Nat.lt_or_ge d i with z | z; exact hall d z; rw [show d = i by omega]; exact h4)
      · skip
        refine go_iconstN (n := 0) (q := 55) dX2_isWord_54 rfl ?_
        exact go_zretF dX2_isWord_55 rfl (fun z => h4 (z.2.2 i (by omega))) hQ

set_option maxHeartbeats 4000000 in
set_option maxRecDepth 100000 in
theorem c_isWord {S : St} {N : Nat → Nat → Int64} {X : St} {Y : Nat → Int64} {Q : Option Value → AH → Prop} {j : Nat} (hG : tpG (S 4)) (hj : j < nStr) (hQ : Q (some (.int (bI (wd (S 4) j)))) (hp S N X Y)) : Cn 5 yX2_isWord cX2_isWord 3 (some .boolean) [.ref 57, .ref (1000 + j)] (hp S N X Y) Q := by
  refine cn_of (own := RX2) (lo := [some (.ref 57), some (.ref (1000 + j)), none]) 1 rfl (by decide +kernel) rfl (Nat.le_of_ble_eq_true rfl) ?_
  have hG0 := hG
  obtain ⟨hT, hse, heL, ha, hk4⟩ := hG
  have hL := hT.1
  have h7 := sL_le hj
  refine go_aloadn0 (q := 1) dX2_isWord_0 rfl ?_
  refine go_tg (q := 4) dX2_isWord_1 fl_X2_32 rfl rfl ?_
  refine go_iconstN (n := 1) (q := 5) dX2_isWord_4 rfl ?_
  refine go_icmp_neN (tgt := 24) (q := 8) dX2_isWord_5 (by decide) rfl (by omega) (by omega) (fun h1 => ?_) (fun h1 => ?_)
  · skip
    refine go_iconstN (n := 0) (q := 25) dX2_isWord_24 rfl ?_
    exact go_zretF dX2_isWord_25 rfl (fun z => h1 z.1) hQ
  · skip
    refine go_aloadn0 (q := 9) dX2_isWord_8 rfl ?_
    refine go_tg (q := 12) dX2_isWord_9 fl_X2_19 rfl rfl ?_
    refine go_aloadn0 (q := 13) dX2_isWord_12 rfl ?_
    refine go_tg (q := 16) dX2_isWord_13 fl_X2_29 rfl rfl ?_
    refine go_isubN (q := 17) dX2_isWord_16 hse rfl ?_
    refine go_aloadn1 (q := 18) dX2_isWord_17 rfl ?_
    refine go_io0 (q := 21) dX2_isWord_18 lk_X2_121 rfl (by decide) (by decide) (Nat.le_of_ble_eq_true rfl) hj rfl (c_strlen hj ?_)
    refine go_icmp_eqN (tgt := 26) (q := 24) dX2_isWord_21 (by decide) rfl (by omega) (by omega) (fun h2 => ?_) (fun h2 => ?_)
    · skip
      refine go_iconstN (n := 0) (q := 27) dX2_isWord_26 rfl ?_
      refine go_istoren2 (q := 28) dX2_isWord_27 rfl (by decide) rfl ?_
      exact c_isWord_28 hG0 hj hQ h1 h2 (sL j + 1) 0 (by omega) (by omega) (fun d hd => absurd hd (Nat.not_lt_zero d))
    · skip
      refine go_iconstN (n := 0) (q := 25) dX2_isWord_24 rfl ?_
      exact go_zretF dX2_isWord_25 rfl (fun z => h2 z.2.1) hQ

set_option maxHeartbeats 4000000 in
set_option maxRecDepth 100000 in
theorem c_takeWord {S : St} {N : Nat → Nat → Int64} {X : St} {Y : Nat → Int64} {Q : Option Value → AH → Prop} {j : Nat} (hG : tpG (S 4)) (hj : j < nStr) (hQ : ∀ S', Ch S S' 4 (if wd (S 4) j then tkn (S 4) else S 4) → Q (some (.int (bI (wd (S 4) j)))) (hp S' N X Y)) : Cn 6 yX2_takeWord cX2_takeWord 2 (some .boolean) [.ref 57, .ref (1000 + j)] (hp S N X Y) Q := by
  refine cn_of (own := RX2) (lo := [some (.ref 57), some (.ref (1000 + j))]) 0 rfl (by decide +kernel) rfl (Nat.le_of_ble_eq_true rfl) ?_
  refine go_aloadn0 (q := 1) dX2_takeWord_0 rfl ?_
  refine go_aloadn1 (q := 2) dX2_takeWord_1 rfl ?_
  refine go_it1 (q := 5) dX2_takeWord_2 lk_X2_50 (by decide) (by decide) (Nat.le_of_ble_eq_true rfl) rfl (c_isWord hG hj ?_)
  refine go_ifneB (tgt := 10) (q := 8) dX2_takeWord_5 (by decide) rfl (fun h1 => ?_) (fun h1 => ?_)
  · skip
    refine go_aloadn0 (q := 11) dX2_takeWord_10 rfl ?_
    refine go_it0 (q := 14) dX2_takeWord_11 lk_X2_22 (by decide) (by decide) (Nat.le_of_ble_eq_true rfl) rfl (c_goAhead hG.1 hG.2.2.1 (fun S1 g1 => ?_))
    refine go_iconstN (n := 1) (q := 15) dX2_takeWord_14 rfl ?_
    exact go_zretT dX2_takeWord_15 rfl h1 (hQ _ (by rw [if_pos h1]; exact g1))
  · skip
    refine go_iconstN (n := 0) (q := 9) dX2_takeWord_8 rfl ?_
    exact go_zretF dX2_takeWord_9 rfl h1 (hQ _ (by rw [if_neg h1]; exact Ch.rf))

set_option maxHeartbeats 4000000 in
set_option maxRecDepth 100000 in
theorem c_takeNumber {S : St} {N : Nat → Nat → Int64} {X : St} {Y : Nat → Int64} {Q : Option Value → AH → Prop} {x y : Nat} (hG : tpG (S 4)) (hx : x < 2 ^ 31) (hy : y < 2 ^ 31) (hQ : ∀ S', Ch S S' 4 (if nb (S 4) x y then tkn (S 4) else S 4) → Q (some (.int (if nb (S 4) x y then nI (S 4 1 4) else -1))) (hp S' N X Y)) : Cn 6 yX2_takeNumber cX2_takeNumber 4 (some .int) [.ref 57, .int (nI x), .int (nI y)] (hp S N X Y) Q := by
  refine cn_of (own := RX2) (lo := [some (.ref 57), some (.int (nI x)), some (.int (nI y)), none]) 1 rfl (by decide +kernel) rfl (Nat.le_of_ble_eq_true rfl) ?_
  have hG0 := hG
  obtain ⟨hT, hse, heL, ha, hk4⟩ := hG
  have hL := hT.1
  refine go_aloadn0 (q := 1) dX2_takeNumber_0 rfl ?_
  refine go_tg (q := 4) dX2_takeNumber_1 fl_X2_32 rfl rfl ?_
  refine go_iconstN (n := 2) (q := 5) dX2_takeNumber_4 rfl ?_
  refine go_icmp_neN (tgt := 24) (q := 8) dX2_takeNumber_5 (by decide) rfl (by omega) (by omega) (fun h1 => ?_) (fun h1 => ?_)
  · skip
    refine go_iconstV (v := -1) (q := 25) dX2_takeNumber_24 (by decide) rfl ?_
    exact go_iretE dX2_takeNumber_25 rfl (if_neg (fun z => h1 z.1)) (hQ _ (by rw [if_neg (fun z => h1 z.1)]; exact Ch.rf))
  · skip
    refine go_aloadn0 (q := 9) dX2_takeNumber_8 rfl ?_
    refine go_tg (q := 12) dX2_takeNumber_9 fl_X2_97 rfl rfl ?_
    refine go_iloadn1 (q := 13) dX2_takeNumber_12 rfl ?_
    refine go_icmp_ltN (tgt := 24) (q := 16) dX2_takeNumber_13 (by decide) rfl (by omega) (by omega) (fun h2 => ?_) (fun h2 => ?_)
    · skip
      refine go_iconstV (v := -1) (q := 25) dX2_takeNumber_24 (by decide) rfl ?_
      exact go_iretE dX2_takeNumber_25 rfl (if_neg (fun z => by have := z.2.1; omega)) (hQ _ (by rw [if_neg (fun z => by have := z.2.1; omega)]; exact Ch.rf))
    · skip
      refine go_aloadn0 (q := 17) dX2_takeNumber_16 rfl ?_
      refine go_tg (q := 20) dX2_takeNumber_17 fl_X2_97 rfl rfl ?_
      refine go_iloadn2 (q := 21) dX2_takeNumber_20 rfl ?_
      refine go_icmp_leN (tgt := 26) (q := 24) dX2_takeNumber_21 (by decide) rfl (by omega) (by omega) (fun h3 => ?_) (fun h3 => ?_)
      · skip
        refine go_aloadn0 (q := 27) dX2_takeNumber_26 rfl ?_
        refine go_tg (q := 30) dX2_takeNumber_27 fl_X2_97 rfl rfl ?_
        refine go_istoren3 (q := 31) dX2_takeNumber_30 rfl (by decide) rfl ?_
        refine go_aloadn0 (q := 32) dX2_takeNumber_31 rfl ?_
        refine go_it0 (q := 35) dX2_takeNumber_32 lk_X2_22 (by decide) (by decide) (Nat.le_of_ble_eq_true rfl) rfl (c_goAhead hT heL (fun S1 g1 => ?_))
        refine go_iloadn3 (q := 36) dX2_takeNumber_35 rfl ?_
        exact go_iretE dX2_takeNumber_36 rfl (if_pos ⟨h1, by omega, h3⟩) (hQ _ (by rw [if_pos ⟨h1, by omega, h3⟩]; exact g1))
      · skip
        refine go_iconstV (v := -1) (q := 25) dX2_takeNumber_24 (by decide) rfl ?_
        exact go_iretE dX2_takeNumber_25 rfl (if_neg (fun z => h3 z.2.2)) (hQ _ (by rw [if_neg (fun z => h3 z.2.2)]; exact Ch.rf))

set_option maxHeartbeats 4000000 in
set_option maxRecDepth 100000 in
theorem c_nameOf {S : St} {N : Nat → Nat → Int64} {X : St} {Y : Nat → Int64} {Q : Option Value → AH → Prop} {k : Nat} (hk : k < 6) (hQ : Q (some (.ref (1000 + kS k))) (hp S N X Y)) : Cn 0 yX2_nameOf cX2_nameOf 1 (some (.object "java/lang/String")) [.int (nI k)] (hp S N X Y) Q := by
  refine cn_of (own := RX2) (lo := [some (.int (nI k))]) 0 rfl (by decide +kernel) rfl (Nat.le_of_ble_eq_true rfl) ?_
  refine go_iloadn0 (q := 1) dX2_nameOf_0 rfl ?_
  obtain rfl | rfl | rfl | rfl | rfl | rfl : k = 0 ∨ k = 1 ∨ k = 2 ∨ k = 3 ∨ k = 4 ∨ k = 5 := by omega
  · skip
    refine go_tableOut (tgt := 51) dX2_nameOf_1 (by decide) (by decide) ?_
    refine go_ldcS 5 (by decide) dX2_nameOf_51 ⟨rfl, rfl⟩ rfl ?_
    exact go_aret dX2_nameOf_53 rfl hQ
  · skip
    refine go_tableIn (off := 35) (tgt := 36) dX2_nameOf_1 (by decide) (by decide) (by decide) (by decide) ?_
    refine go_ldcS 0 (by decide) dX2_nameOf_36 ⟨rfl, rfl⟩ rfl ?_
    exact go_aret dX2_nameOf_38 rfl hQ
  · skip
    refine go_tableIn (off := 38) (tgt := 39) dX2_nameOf_1 (by decide) (by decide) (by decide) (by decide) ?_
    refine go_ldcS 1 (by decide) dX2_nameOf_39 ⟨rfl, rfl⟩ rfl ?_
    exact go_aret dX2_nameOf_41 rfl hQ
  · skip
    refine go_tableIn (off := 41) (tgt := 42) dX2_nameOf_1 (by decide) (by decide) (by decide) (by decide) ?_
    refine go_ldcS 2 (by decide) dX2_nameOf_42 ⟨rfl, rfl⟩ rfl ?_
    exact go_aret dX2_nameOf_44 rfl hQ
  · skip
    refine go_tableIn (off := 44) (tgt := 45) dX2_nameOf_1 (by decide) (by decide) (by decide) (by decide) ?_
    refine go_ldcS 3 (by decide) dX2_nameOf_45 ⟨rfl, rfl⟩ rfl ?_
    exact go_aret dX2_nameOf_47 rfl hQ
  · skip
    refine go_tableIn (off := 47) (tgt := 48) dX2_nameOf_1 (by decide) (by decide) (by decide) (by decide) ?_
    refine go_ldcS 4 (by decide) dX2_nameOf_48 ⟨rfl, rfl⟩ rfl ?_
    exact go_aret dX2_nameOf_50 rfl hQ

set_option maxHeartbeats 4000000 in
set_option maxRecDepth 100000 in
theorem c_kindNamed_2 {S : St} {N : Nat → Nat → Int64} {X : St} {Y : Nat → Int64} {Q : Option Value → AH → Prop} (hG : tpG (S 4)) (hQ : Q (some (.int (if kn (S 4) < 6 then nI (kn (S 4)) else -1))) (hp S N X Y)) : ∀ (fu : Nat) (k : Nat), 6 - k < fu → (k ≤ 6) → (∀ d, d < k → ¬ wd (S 4) (kS d)) → Go 6 RX2 cX2_kindNamed 2 (some .int) 2 [some (.ref 57), some (.int (nI k))] [] (hp S N X Y) Q := by
  intro fu
  induction fu with
  | zero => intro k hfu; exact absurd hfu (Nat.not_lt_zero _)
  | succ fu ih =>
    intro k hfu hk hall
    refine go_iloadn1 (q := 3) dX2_kindNamed_2 rfl ?_
    refine go_bipushN (v := 6) (q := 5) dX2_kindNamed_3 (by decide) rfl ?_
    refine go_icmp_geN (tgt := 27) (q := 8) dX2_kindNamed_5 (by decide) rfl (by omega) (by omega) (fun h1 => ?_) (fun h1 => ?_)
    · skip
      refine go_iconstV (v := -1) (q := 28) dX2_kindNamed_27 (by decide) rfl ?_
      exact go_iretE dX2_kindNamed_28 rfl (kn_no (fun d hd => hall d (by omega))) hQ
    · skip
      refine go_aloadn0 (q := 9) dX2_kindNamed_8 rfl ?_
      refine go_iloadn1 (q := 10) dX2_kindNamed_9 rfl ?_
      refine go_is1_ (q := 13) dX2_kindNamed_10 lk_X2_105 (by decide) (by decide) (Nat.le_of_ble_eq_true rfl) rfl (c_nameOf (by omega) ?_)
      refine go_it1 (q := 16) dX2_kindNamed_13 lk_X2_50 (by decide) (by decide) (Nat.le_of_ble_eq_true rfl) rfl (c_isWord hG (kS_lt (by omega)) ?_)
      refine go_ifeqB (tgt := 21) (q := 19) dX2_kindNamed_16 (by decide) rfl (fun h2 => ?_) (fun h2 => ?_)
      · skip
        refine go_iincN1 (n := 1) (q := 24) dX2_kindNamed_21 rfl (by decide) rfl ?_
        refine go_goto (tgt := 2) dX2_kindNamed_24 (by decide) ?_
        exact ih (k + 1) (by omega) (by omega) (fun d hd => by rcases Nat.lt_or_ge d k with z | z; exact hall d z; rw [show d = k by omega]; exact h2)
      · skip
        refine go_iloadn1 (q := 20) dX2_kindNamed_19 rfl ?_
        exact go_iretE dX2_kindNamed_20 rfl (kn_yes (by omega) h2 hall) hQ

set_option maxHeartbeats 4000000 in
set_option maxRecDepth 100000 in
theorem c_kindNamed {S : St} {N : Nat → Nat → Int64} {X : St} {Y : Nat → Int64} {Q : Option Value → AH → Prop} (hG : tpG (S 4)) (hQ : Q (some (.int (if kn (S 4) < 6 then nI (kn (S 4)) else -1))) (hp S N X Y)) : Cn 6 yX2_kindNamed cX2_kindNamed 2 (some .int) [.ref 57] (hp S N X Y) Q := by
  refine cn_of (own := RX2) (lo := [some (.ref 57), none]) 1 rfl (by decide +kernel) rfl (Nat.le_of_ble_eq_true rfl) ?_
  refine go_iconstN (n := 0) (q := 1) dX2_kindNamed_0 rfl ?_
  refine go_istoren1 (q := 2) dX2_kindNamed_1 rfl (by decide) rfl ?_
  exact c_kindNamed_2 hG hQ 7 0 (by omega) (by omega) (fun d hd => absurd hd (Nat.not_lt_zero d))
