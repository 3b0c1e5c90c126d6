theorem rg_t {t : Nat} (ht : t < 4) : rg (nI t) 0 3 := (rg_nI (by omega)).mpr (by omega)
theorem t_one {t u : Nat} (ht : t < 4) (hu : u < 4) (e : nI t = nI u) : t = u := (nI_eq (by omega) (by omega)).mp e
theorem r_wantsB {S : St} {N : Nat → Nat → Int64} {X : St} {Y : Nat → Int64} {Q : Option Value → AH → Prop} {x : Int32} (hsh : ∀ t, t < 4 → okB (X 3 6 t) ∧ X 3 5 t ≤ 40) (h : ¬ rg x 0 3) (hQ : Q (some (.int (-1000000001))) (hp S N X Y)) : Cn 2 yX4_wants cX4_wants 2 (some .int) [.ref 69, .int x] (hp S N X Y) Q :=
  r_wants hsh (fun _ => hQ) (fun t ht e _ => absurd (by rw [e]; exact rg_t ht) h) (fun t ht e _ => absurd (by rw [e]; exact rg_t ht) h)
theorem r_wantsM {S : St} {N : Nat → Nat → Int64} {X : St} {Y : Nat → Int64} {Q : Option Value → AH → Prop} {t : Nat} (hsh : ∀ t, t < 4 → okB (X 3 6 t) ∧ X 3 5 t ≤ 40) (ht : t < 4) (h : X 3 6 t = 0) (hQ : Q (some (.int (-1000000006))) (hp S N X Y)) : Cn 2 yX4_wants cX4_wants 2 (some .int) [.ref 69, .int (nI t)] (hp S N X Y) Q :=
  r_wants hsh (fun z => absurd (rg_t ht) z) (fun _ _ _ _ => hQ) (fun u hu e z => absurd (by rw [← t_one ht hu e]; exact h) z)
theorem r_wantsO {S : St} {N : Nat → Nat → Int64} {X : St} {Y : Nat → Int64} {Q : Option Value → AH → Prop} {t : Nat} (hsh : ∀ t, t < 4 → okB (X 3 6 t) ∧ X 3 5 t ≤ 40) (ht : t < 4) (h : ¬ X 3 6 t = 0) (hQ : Q (some (.int (nI 0))) (hp S N X Y)) : Cn 2 yX4_wants cX4_wants 2 (some .int) [.ref 69, .int (nI t)] (hp S N X Y) Q :=
  r_wants hsh (fun z => absurd (rg_t ht) z) (fun u hu e z => absurd (by rw [t_one ht hu e]; exact z) h) (fun _ _ _ _ => hQ)
theorem wn_cs {X : St} (x : Int32) : ¬ rg x 0 3 ∨ (∃ t, t < 4 ∧ x = nI t ∧ X 3 6 t = 0) ∨ (∃ t, t < 4 ∧ x = nI t ∧ ¬ X 3 6 t = 0) := by
  by_cases h1 : rg x 0 3
  · obtain ⟨t, ht3, e, -, -⟩ := rg_nat (n := 3) h1 (by omega) (by omega)
    by_cases h : X 3 6 t = 0
    · exact Or.inr (Or.inl ⟨t, by omega, e, h⟩)
    · exact Or.inr (Or.inr ⟨t, by omega, e, h⟩)
  · exact Or.inl h1

set_option maxHeartbeats 4000000 in
set_option maxRecDepth 100000 in
theorem r_lays_B {S : St} {N : Nat → Nat → Int64} {X : St} {Y : Nat → Int64} {Q : Option Value → AH → Prop} {x : Int32} (hsh : ∀ t, t < 4 → okB (X 3 6 t) ∧ X 3 5 t ≤ 40) (h : ¬ rg x 0 3) (hB : ∀ X', Xf X X' 0 → Q (some (.int (-1000000001))) (hp S N X' Y)) : Go 4 RX4 cX4_lays 6 (some .int) 0 [some (.ref 69), some (.int x), none, none, none, none] [] (hp S N X Y) Q := by
  refine go_aloadn0 (q := 1) dX4_lays_0 rfl ?_
  refine go_iloadn1 (q := 2) dX4_lays_1 rfl ?_
  refine go_ix1 (q := 5) dX4_lays_2 lk_X4_261 (by decide) (by decide) (Nat.le_of_ble_eq_true rfl) rfl (r_wantsB hsh h ?_)
  refine go_if_eq (tgt := 18) (q := 8) dX4_lays_5 (by decide) rfl (fun h1 => ?_) (fun h1 => ?_)
  · skip
    exact absurd h1 (by decide)
  · skip
    refine go_aloadn0 (q := 9) dX4_lays_8 rfl ?_
    refine go_aloadn0 (q := 10) dX4_lays_9 rfl ?_
    refine go_iloadn1 (q := 11) dX4_lays_10 rfl ?_
    refine go_ix1 (q := 14) dX4_lays_11 lk_X4_261 (by decide) (by decide) (Nat.le_of_ble_eq_true rfl) rfl (r_wantsB hsh h ?_)
    refine go_ix1 (q := 17) dX4_lays_14 lk_X4_57 (by decide) (by decide) (Nat.le_of_ble_eq_true rfl) rfl (r_finds (p := 0) (by decide) (by decide) ?_)
    exact go_iret dX4_lays_17 rfl (hB _ (Xf.rf 0))

set_option maxHeartbeats 4000000 in
set_option maxRecDepth 100000 in
theorem r_lays_M {S : St} {N : Nat → Nat → Int64} {X : St} {Y : Nat → Int64} {Q : Option Value → AH → Prop} {t : Nat} (hsh : ∀ t, t < 4 → okB (X 3 6 t) ∧ X 3 5 t ≤ 40) (ht : t < 4) (h : X 3 6 t = 0) (hM : ∀ X', Xf X X' 5 → Q (some (.int (-1000000006))) (hp S N X' Y)) : Go 4 RX4 cX4_lays 6 (some .int) 0 [some (.ref 69), some (.int (nI t)), none, none, none, none] [] (hp S N X Y) Q := by
  refine go_aloadn0 (q := 1) dX4_lays_0 rfl ?_
  refine go_iloadn1 (q := 2) dX4_lays_1 rfl ?_
  refine go_ix1 (q := 5) dX4_lays_2 lk_X4_261 (by decide) (by decide) (Nat.le_of_ble_eq_true rfl) rfl (r_wantsM hsh ht h ?_)
  refine go_if_eq (tgt := 18) (q := 8) dX4_lays_5 (by decide) rfl (fun h1 => ?_) (fun h1 => ?_)
  · skip
    exact absurd h1 (by decide)
  · skip
    refine go_aloadn0 (q := 9) dX4_lays_8 rfl ?_
    refine go_aloadn0 (q := 10) dX4_lays_9 rfl ?_
    refine go_iloadn1 (q := 11) dX4_lays_10 rfl ?_
    refine go_ix1 (q := 14) dX4_lays_11 lk_X4_261 (by decide) (by decide) (Nat.le_of_ble_eq_true rfl) rfl (r_wantsM hsh ht h ?_)
    refine go_ix1 (q := 17) dX4_lays_14 lk_X4_57 (by decide) (by decide) (Nat.le_of_ble_eq_true rfl) rfl (r_finds (p := 5) (by decide) (by decide) ?_)
    exact go_iret dX4_lays_17 rfl (hM _ (Xf.rf 5))

set_option maxHeartbeats 4000000 in
set_option maxRecDepth 100000 in
theorem r_lays_22 {S : St} {N : Nat → Nat → Int64} {X : St} {Y : Nat → Int64} {Q : Option Value → AH → Prop} {t : Nat} (ht : t < 4) (hlen : X 3 5 t ≤ 40) (hO : ∀ X', Xp X X' (layM (X 0) (fun i => Y (40 * t + i)) (min (X 3 5 t) 12)) → Q (some (.int (nI (layN (fun i => Y (40 * t + i)) (min (X 3 5 t) 12))))) (hp S N X' Y)) : ∀ (fu : Nat) (c a : Nat) (X1 : St), (min (X 3 5 t) 12) - c < fu → (c ≤ (min (X 3 5 t) 12)) → (Xc X X1 (layM (X 0) (fun i => Y (40 * t + i)) c)) → (layN (fun i => Y (40 * t + i)) c = a) → Go 4 RX4 cX4_lays 6 (some .int) 22 [some (.ref 69), some (.int (nI t)), some (.int (nI a)), some (.int (nI c)), none, none] [] (hp S N X1 Y) Q := by
  intro fu
  induction fu with
  | zero => intro c a X1 hfu; exact absurd hfu (Nat.not_lt_zero _)
  | succ fu ih =>
    intro c a X1 hfu hc g1 ha
    have e5 : X1 3 5 t = X 3 5 t := by rw [g1.2.2.2 5 (by decide) (by decide)]
    refine go_iloadn3 (q := 23) dX4_lays_22 rfl ?_
    refine go_aloadn0 (q := 24) dX4_lays_23 rfl ?_
    refine go_xg (q := 27) dX4_lays_24 fl_X4_28 rfl rfl ?_
    refine go_iloadn1 (q := 28) dX4_lays_27 rfl ?_
    refine go_xzld (q := 29) dX4_lays_28 ht rfl ?_
    rw [e5]
    refine go_icmp_geN (tgt := 84) (q := 32) dX4_lays_29 (by decide) rfl (by omega) (by omega) (fun h1 => ?_) (fun h1 => ?_)
    · skip
      refine go_iloadn2 (q := 85) dX4_lays_84 rfl ?_
      exact go_iretN dX4_lays_85 rfl (by rw [← ha, show c = min (X 3 5 t) 12 by omega]) (hO _ (by rw [show min (X 3 5 t) 12 = c by omega]; exact g1.p))
    · skip
      refine go_iloadn3 (q := 33) dX4_lays_32 rfl ?_
      refine go_bipushN (v := 12) (q := 35) dX4_lays_33 (by decide) rfl ?_
      refine go_icmp_geN (tgt := 84) (q := 38) dX4_lays_35 (by decide) rfl (by omega) (by omega) (fun h2 => ?_) (fun h2 => ?_)
      · skip
        refine go_iloadn2 (q := 85) dX4_lays_84 rfl ?_
        exact go_iretN dX4_lays_85 rfl (by rw [← ha, show c = min (X 3 5 t) 12 by omega]) (hO _ (by rw [show min (X 3 5 t) 12 = c by omega]; exact g1.p))
      · skip
        refine go_aloadn0 (q := 39) dX4_lays_38 rfl ?_
        refine go_xg (q := 42) dX4_lays_39 fl_X4_31 rfl rfl ?_
        refine go_bipushN (v := 40) (q := 44) dX4_lays_42 (by decide) rfl ?_
        refine go_iloadn1 (q := 45) dX4_lays_44 rfl ?_
        refine go_imulN (q := 46) dX4_lays_45 rfl ?_
        refine go_iloadn3 (q := 47) dX4_lays_46 rfl ?_
        refine go_iaddN (q := 48) dX4_lays_47 rfl ?_
        refine go_xlld (q := 49) dX4_lays_48 (show 40 * t + c < 160 by omega) rfl ?_
        refine go_lstore4 (q := 51) dX4_lays_49 rfl (by decide) rfl ?_
        refine go_lload4 (q := 53) dX4_lays_51 rfl ?_
        refine go_lconst (q := 54) dX4_lays_53 rfl ?_
        refine go_ldc2 (q := 57) dX4_lays_54 ko_X4_63 rfl ?_
        refine go_is3_ (q := 60) dX4_lays_57 lk_X4_49 (by decide) (by decide) (Nat.le_of_ble_eq_true rfl) rfl (r_isInL (x := (Y (40 * t + c)).toInt) (l := 0) (m := 99) rfl (by decide) (by decide) ?_)
        refine go_ifeqB (tgt := 78) (q := 63) dX4_lays_60 (by decide) rfl (fun h3 => ?_) (fun h3 => ?_)
        · skip
          refine go_iincN3 (n := 1) (q := 81) dX4_lays_78 rfl (by decide) rfl ?_
          refine go_goto (tgt := 22) dX4_lays_81 (by decide) ?_
          refine go_forget (lo' := [some (.ref 69), some (.int (nI t)), some (.int (nI a)), some (.int (nI (c + 1))), none, none]) (fun i v hi => by match i, hi with | 0, h => exact h | 1, h => exact h | 2, h => exact h | 3, h => exact h | 4, h => cases h | 5, h => cases h) ?_
          exact ih (c + 1) a X1 (by omega) (by omega) (g1.to (layM_no (f := (fun i => Y (40 * t + i))) h3).symm) (by unfold layN; rw [sm_s, if_neg h3, Nat.add_zero]; exact ha)
        · skip
          refine go_aloadn0 (q := 64) dX4_lays_63 rfl ?_
          refine go_xg (q := 67) dX4_lays_64 fl_X4_7 rfl rfl ?_
          refine go_bipushN (v := 8) (q := 69) dX4_lays_67 (by decide) rfl ?_
          refine go_iloadn3 (q := 70) dX4_lays_69 rfl ?_
          refine go_iaddN (q := 71) dX4_lays_70 rfl ?_
          refine go_lload4 (q := 73) dX4_lays_71 rfl ?_
          refine go_l2i (q := 74) dX4_lays_73 rfl ?_
          refine go_st (st' := [.int (nI (Y (40 * t + c)).toInt.toNat), .int (nI (8 + c)), .ref 70]) (by rw [l2i_p h3]) ?_
          refine go_rst (q := 75) dX4_lays_74 (rr_price (show c < 12 by omega)) rfl ?_
          refine go_iincN2 (n := 1) (q := 78) dX4_lays_75 rfl (by decide) rfl ?_
          refine go_iincN3 (n := 1) (q := 81) dX4_lays_78 rfl (by decide) rfl ?_
          refine go_goto (tgt := 22) dX4_lays_81 (by decide) ?_
          refine go_forget (lo' := [some (.ref 69), some (.int (nI t)), some (.int (nI (a + 1))), some (.int (nI (c + 1))), none, none]) (fun i v hi => by match i, hi with | 0, h => exact h | 1, h => exact h | 2, h => exact h | 3, h => exact h | 4, h => cases h | 5, h => cases h) ?_
          exact ih (c + 1) (a + 1) _ (by omega) (by omega) ((g1.u 5 c _).to (layM_yes (f := (fun i => Y (40 * t + i))) h3).symm) (by unfold layN; rw [sm_s, if_pos h3]; exact congrArg (· + 1) ha)

set_option maxHeartbeats 4000000 in
set_option maxRecDepth 100000 in
theorem r_lays_O {S : St} {N : Nat → Nat → Int64} {X : St} {Y : Nat → Int64} {Q : Option Value → AH → Prop} {t : Nat} (hsh : ∀ t, t < 4 → okB (X 3 6 t) ∧ X 3 5 t ≤ 40) (ht : t < 4) (h : ¬ X 3 6 t = 0) (hO : ∀ X', Xp X X' (layM (X 0) (fun i => Y (40 * t + i)) (min (X 3 5 t) 12)) → Q (some (.int (nI (layN (fun i => Y (40 * t + i)) (min (X 3 5 t) 12))))) (hp S N X' Y)) : Go 4 RX4 cX4_lays 6 (some .int) 0 [some (.ref 69), some (.int (nI t)), none, none, none, none] [] (hp S N X Y) Q := by
  refine go_aloadn0 (q := 1) dX4_lays_0 rfl ?_
  refine go_iloadn1 (q := 2) dX4_lays_1 rfl ?_
  refine go_ix1 (q := 5) dX4_lays_2 lk_X4_261 (by decide) (by decide) (Nat.le_of_ble_eq_true rfl) rfl (r_wantsO hsh ht h ?_)
  refine go_if_eqN (tgt := 18) (q := 8) dX4_lays_5 (by decide) rfl (by omega) (fun h1 => ?_) (fun h1 => ?_)
  · skip
    refine go_iconstN (n := 0) (q := 19) dX4_lays_18 rfl ?_
    refine go_istoren2 (q := 20) dX4_lays_19 rfl (by decide) rfl ?_
    refine go_iconstN (n := 0) (q := 21) dX4_lays_20 rfl ?_
    refine go_istoren3 (q := 22) dX4_lays_21 rfl (by decide) rfl ?_
    exact r_lays_22 ht (hsh t ht).2 hO (min (X 3 5 t) 12 + 1) 0 0 X (by omega) (by omega) (Xc.rf.to (layM_0 _ _).symm) rfl
  · skip
    exact absurd rfl h1

set_option maxHeartbeats 4000000 in
set_option maxRecDepth 100000 in
theorem r_lays {S : St} {N : Nat → Nat → Int64} {X : St} {Y : Nat → Int64} {Q : Option Value → AH → Prop} {x : Int32} (hsh : ∀ t, t < 4 → okB (X 3 6 t) ∧ X 3 5 t ≤ 40) (hB : ¬ rg x 0 3 → ∀ X', Xf X X' 0 → Q (some (.int (-1000000001))) (hp S N X' Y)) (hM : ∀ t, t < 4 → x = nI t → X 3 6 t = 0 → ∀ X', Xf X X' 5 → Q (some (.int (-1000000006))) (hp S N X' Y)) (hO : ∀ t, t < 4 → x = nI t → X 3 6 t ≠ 0 → ∀ X', Xp X X' (layM (X 0) (fun i => Y (40 * t + i)) (min (X 3 5 t) 12)) → Q (some (.int (nI (layN (fun i => Y (40 * t + i)) (min (X 3 5 t) 12))))) (hp S N X' Y)) : Cn 4 yX4_lays cX4_lays 6 (some .int) [.ref 69, .int x] (hp S N X Y) Q := by
  refine cn_of (own := RX4) (lo := [some (.ref 69), some (.int x), none, none, none, none]) 4 rfl (by decide +kernel) rfl (Nat.le_of_ble_eq_true rfl) ?_
  rcases wn_cs (X := X) x with h | ⟨t, ht, rfl, h⟩ | ⟨t, ht, rfl, h⟩
  · exact r_lays_B hsh h (hB h)
  · exact r_lays_M hsh ht h (hM t ht rfl h)
  · exact r_lays_O hsh ht h (hO t ht rfl h)
