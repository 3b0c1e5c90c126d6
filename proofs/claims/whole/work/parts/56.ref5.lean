def payK (M : Mk) (s t l c : Nat) : Mk := fun j i => if j = 1 ∧ i < c ∧ bit s i = 1 then t else if j = 13 ∧ i = 3 then l else M j i
theorem payK_0 (M : Mk) (s t l : Nat) : payK M s t l 0 = u2 M 13 3 l := by
  funext j i
  unfold payK u2
  rw [if_neg (by omega)]
theorem payK_130 (M : Mk) (s t l c : Nat) : payK M s t l c 13 0 = M 13 0 := by
  unfold payK
  rw [if_neg (by omega), if_neg (by omega)]
theorem payK_all (M : Mk) (f t v : Nat) : payK M (chs M f v) t (M 13 3 + (v - wset M (chs M f v))) (M 13 0) = payM M f t v := rfl
theorem payK_no {M : Mk} {s t l c : Nat} (h : ¬ bit s c = 1) : payK M s t l (c + 1) = payK M s t l c := by
  funext j i
  unfold payK
  by_cases e : j = 1 ∧ i < c ∧ bit s i = 1
  · rw [if_pos e, if_pos ⟨e.1, by omega, e.2.2⟩]
  · rw [if_neg e, if_neg (fun z => e ⟨z.1, by rcases Nat.lt_or_ge i c with y | y; exact y; exact absurd (by rw [show c = i by omega]; exact z.2.2) h, z.2.2⟩)]
theorem payK_yes {M : Mk} {s t l c : Nat} (h : bit s c = 1) : payK M s t l (c + 1) = u2 (payK M s t l c) 1 c t := by
  funext j i
  unfold u2
  by_cases e : j = 1 ∧ i = c
  · rw [if_pos e]
    unfold payK
    rw [if_pos ⟨e.1, by omega, by rw [e.2]; exact h⟩]
  · rw [if_neg e]
    unfold payK
    by_cases e2 : j = 1 ∧ i < c ∧ bit s i = 1
    · rw [if_pos e2, if_pos ⟨e2.1, by omega, e2.2.2⟩]
    · rw [if_neg e2, if_neg (fun z => e2 ⟨z.1, by omega, z.2.2⟩)]

set_option maxHeartbeats 4000000 in
set_option maxRecDepth 100000 in
theorem r_which {S : St} {N : Nat → Nat → Int64} {X : St} {Y : Nat → Int64} {Q : Option Value → AH → Prop} {x v : Int32} (hw : WF (X 0)) (hB : ¬ (rg x 0 3 ∧ rg v 1 9999) → ∀ X', Xf X X' 0 → Q (some (.int (-1000000001))) (hp S N X' Y)) (hO : ∀ f a, f ≤ 3 → 1 ≤ a ∧ a ≤ 9999 → x = nI f → v = nI a → ∀ X', Xp X X' (X 0) → Q (some (.int (nI (chs (X 0) f a)))) (hp S N X' Y)) : Cn 5 yX4_which cX4_which 3 (some .int) [.ref 69, .int x, .int v] (hp S N X Y) Q := by
  refine cn_of (own := RX4) (lo := [some (.ref 69), some (.int x), some (.int v)]) 0 rfl (by decide +kernel) rfl (Nat.le_of_ble_eq_true rfl) ?_
  refine go_iloadn1 (q := 1) dX4_which_0 rfl ?_
  refine go_is1_ (q := 4) dX4_which_1 lk_X4_43 (by decide) (by decide) (Nat.le_of_ble_eq_true rfl) rfl (r_isOwner ?_)
  refine go_ifeqB (tgt := 28) (q := 7) dX4_which_4 (by decide) rfl (fun h1 => ?_) (fun h1 => ?_)
  · skip
    refine go_aloadn0 (q := 29) dX4_which_28 rfl ?_
    refine go_ldc (q := 31) dX4_which_29 ko_X4_42 rfl ?_
    refine go_ix1 (q := 34) dX4_which_31 lk_X4_57 (by decide) (by decide) (Nat.le_of_ble_eq_true rfl) rfl (r_finds (p := 0) (by decide) (by decide) ?_)
    exact go_iret dX4_which_34 rfl (hB (fun z => h1 z.1) _ (Xf.rf 0))
  · skip
    refine go_iloadn2 (q := 8) dX4_which_7 rfl ?_
    refine go_i2l (q := 9) dX4_which_8 rfl ?_
    refine go_lconst (q := 10) dX4_which_9 rfl ?_
    refine go_ldc2 (q := 13) dX4_which_10 ko_X4_123 rfl ?_
    refine go_is3_ (q := 16) dX4_which_13 lk_X4_49 (by decide) (by decide) (Nat.le_of_ble_eq_true rfl) rfl (r_isIn (l := 1) (m := 9999) (by decide) (by decide) ?_)
    refine go_ifeqB (tgt := 28) (q := 19) dX4_which_16 (by decide) rfl (fun h2 => ?_) (fun h2 => ?_)
    · skip
      refine go_aloadn0 (q := 29) dX4_which_28 rfl ?_
      refine go_ldc (q := 31) dX4_which_29 ko_X4_42 rfl ?_
      refine go_ix1 (q := 34) dX4_which_31 lk_X4_57 (by decide) (by decide) (Nat.le_of_ble_eq_true rfl) rfl (r_finds (p := 0) (by decide) (by decide) ?_)
      exact go_iret dX4_which_34 rfl (hB (fun z => h2 z.2) _ (Xf.rf 0))
    · skip
      have h20 := h2
      obtain ⟨f, hf, rfl, -, -⟩ := rg_nat (n := 3) h1 (by omega) (by omega)
      obtain ⟨a, ha, rfl, ha1, -⟩ := rg_nat (n := 9999) h2 (by omega) (by omega)
      refine go_aloadn0 (q := 20) dX4_which_19 rfl ?_
      refine go_iloadn1 (q := 21) dX4_which_20 rfl ?_
      refine go_iloadn2 (q := 22) dX4_which_21 rfl ?_
      refine go_ix2 (q := 25) dX4_which_22 lk_X4_125 (by decide) (by decide) (Nat.le_of_ble_eq_true rfl) rfl (r_findSet hw hf (by omega) ha (fun X1 g1 e1 h4 hI => ?_))
      refine go_goto (tgt := 34) dX4_which_25 (by decide) ?_
      exact go_iret dX4_which_34 rfl (hO f a hf ⟨by omega, ha⟩ rfl rfl _ g1.p)

set_option maxHeartbeats 4000000 in
set_option maxRecDepth 100000 in
theorem r_over {S : St} {N : Nat → Nat → Int64} {X : St} {Y : Nat → Int64} {Q : Option Value → AH → Prop} {x v : Int32} (hw : WF (X 0)) (hB : ¬ (rg x 0 3 ∧ rg v 1 9999) → ∀ X', Xf X X' 0 → Q (some (.int (-1000000001))) (hp S N X' Y)) (hO : ∀ f a, f ≤ 3 → 1 ≤ a ∧ a ≤ 9999 → x = nI f → v = nI a → ∀ X', Xp X X' (X 0) → Q (some (.int (nI (wset (X 0) (chs (X 0) f a)) - nI a))) (hp S N X' Y)) : Cn 5 yX4_over cX4_over 3 (some .int) [.ref 69, .int x, .int v] (hp S N X Y) Q := by
  refine cn_of (own := RX4) (lo := [some (.ref 69), some (.int x), some (.int v)]) 0 rfl (by decide +kernel) rfl (Nat.le_of_ble_eq_true rfl) ?_
  refine go_iloadn1 (q := 1) dX4_over_0 rfl ?_
  refine go_is1_ (q := 4) dX4_over_1 lk_X4_43 (by decide) (by decide) (Nat.le_of_ble_eq_true rfl) rfl (r_isOwner ?_)
  refine go_ifeqB (tgt := 35) (q := 7) dX4_over_4 (by decide) rfl (fun h1 => ?_) (fun h1 => ?_)
  · skip
    refine go_aloadn0 (q := 36) dX4_over_35 rfl ?_
    refine go_ldc (q := 38) dX4_over_36 ko_X4_42 rfl ?_
    refine go_ix1 (q := 41) dX4_over_38 lk_X4_57 (by decide) (by decide) (Nat.le_of_ble_eq_true rfl) rfl (r_finds (p := 0) (by decide) (by decide) ?_)
    exact go_iret dX4_over_41 rfl (hB (fun z => h1 z.1) _ (Xf.rf 0))
  · skip
    refine go_iloadn2 (q := 8) dX4_over_7 rfl ?_
    refine go_i2l (q := 9) dX4_over_8 rfl ?_
    refine go_lconst (q := 10) dX4_over_9 rfl ?_
    refine go_ldc2 (q := 13) dX4_over_10 ko_X4_123 rfl ?_
    refine go_is3_ (q := 16) dX4_over_13 lk_X4_49 (by decide) (by decide) (Nat.le_of_ble_eq_true rfl) rfl (r_isIn (l := 1) (m := 9999) (by decide) (by decide) ?_)
    refine go_ifeqB (tgt := 35) (q := 19) dX4_over_16 (by decide) rfl (fun h2 => ?_) (fun h2 => ?_)
    · skip
      refine go_aloadn0 (q := 36) dX4_over_35 rfl ?_
      refine go_ldc (q := 38) dX4_over_36 ko_X4_42 rfl ?_
      refine go_ix1 (q := 41) dX4_over_38 lk_X4_57 (by decide) (by decide) (Nat.le_of_ble_eq_true rfl) rfl (r_finds (p := 0) (by decide) (by decide) ?_)
      exact go_iret dX4_over_41 rfl (hB (fun z => h2 z.2) _ (Xf.rf 0))
    · skip
      have h20 := h2
      obtain ⟨f, hf, rfl, -, -⟩ := rg_nat (n := 3) h1 (by omega) (by omega)
      obtain ⟨a, ha, rfl, ha1, -⟩ := rg_nat (n := 9999) h2 (by omega) (by omega)
      refine go_aloadn0 (q := 20) dX4_over_19 rfl ?_
      refine go_xg (q := 23) dX4_over_20 fl_X4_35 rfl rfl ?_
      refine go_aloadn0 (q := 24) dX4_over_23 rfl ?_
      refine go_iloadn1 (q := 25) dX4_over_24 rfl ?_
      refine go_iloadn2 (q := 26) dX4_over_25 rfl ?_
      refine go_ix2 (q := 29) dX4_over_26 lk_X4_125 (by decide) (by decide) (Nat.le_of_ble_eq_true rfl) rfl (r_findSet hw hf (by omega) ha (fun X1 g1 e1 h4 hI => ?_))
      refine go_xsld (q := 30) dX4_over_29 h4 rfl ?_
      rw [e1]
      refine go_iloadn2 (q := 31) dX4_over_30 rfl ?_
      refine go_isub (q := 32) dX4_over_31 rfl ?_
      refine go_goto (tgt := 41) dX4_over_32 (by decide) ?_
      exact go_iret dX4_over_41 rfl (hO f a hf ⟨by omega, ha⟩ rfl rfl _ g1.p)

set_option maxHeartbeats 4000000 in
set_option maxRecDepth 100000 in
theorem r_pays_44 {S : St} {N : Nat → Nat → Int64} {X : St} {Y : Nat → Int64} {Q : Option Value → AH → Prop} {f t v : Nat} (hw : WF (X 0)) (hf : f ≤ 3) (hv1 : 1 ≤ v) (hv : v ≤ 9999) (hO : ∀ X', Xc X X' (payM (X 0) f t v) → Q (some (.int (nI (chs (X 0) f v)))) (hp S N X' Y)) (h4 : chs (X 0) f v < 4096) : ∀ (fu : Nat) (c : Nat) (X1 : St), X 0 13 0 - c < fu → (c ≤ X 0 13 0) → (Xc X X1 (payK (X 0) (chs (X 0) f v) t (X 0 13 3 + (v - wset (X 0) (chs (X 0) f v))) c)) → Go 5 RX4 cX4_pays 6 (some .int) 44 [some (.ref 69), some (.int (nI f)), some (.int (nI t)), some (.int (nI v)), some (.int (nI (chs (X 0) f v))), some (.int (nI c))] [] (hp S N X1 Y) Q := by
  intro fu
  induction fu with
  | zero => intro c X1 hfu; exact absurd hfu (Nat.not_lt_zero _)
  | succ fu ih =>
    intro c X1 hfu hc g
    have hco := hw.co
    have e0 : X1 0 13 0 = X 0 13 0 := by rw [g.1]; exact payK_130 _ _ _ _ _
    refine go_iload5 (q := 46) dX4_pays_44 rfl ?_
    refine go_aloadn0 (q := 47) dX4_pays_46 rfl ?_
    refine go_xg (q := 50) dX4_pays_47 fl_X4_7 rfl rfl ?_
    refine go_iconstN (n := 0) (q := 51) dX4_pays_50 rfl ?_
    refine go_rld (q := 52) dX4_pays_51 (rr_13 (f := 0) (by decide)) rfl ?_
    rw [e0]
    refine go_icmp_geN (tgt := 80) (q := 55) dX4_pays_52 (by decide) rfl (by omega) (by omega) (fun h1 => ?_) (fun h1 => ?_)
    · skip
      refine go_iload4 (q := 82) dX4_pays_80 rfl ?_
      exact go_iret dX4_pays_82 rfl (hO _ (g.to (by rw [show c = X 0 13 0 by omega]; exact payK_all _ _ _ _)))
    · skip
      refine go_iload4 (q := 57) dX4_pays_55 rfl ?_
      refine go_iload5 (q := 59) dX4_pays_57 rfl ?_
      refine go_ishr (q := 60) dX4_pays_59 rfl ?_
      refine go_iconstN (n := 1) (q := 61) dX4_pays_60 rfl ?_
      refine go_iand (q := 62) dX4_pays_61 rfl ?_
      refine go_st (st' := [.int (nI (bit (chs (X 0) f v) c))]) (by rw [m_bit (by omega) (by omega)]) ?_
      have hb01 := bit_01 (chs (X 0) f v) c
      refine go_iconstN (n := 1) (q := 63) dX4_pays_62 rfl ?_
      refine go_icmp_neN (tgt := 74) (q := 66) dX4_pays_63 (by decide) rfl (by omega) (by omega) (fun h2 => ?_) (fun h2 => ?_)
      · skip
        refine go_iincN5 (n := 1) (q := 77) dX4_pays_74 rfl (by decide) rfl ?_
        refine go_goto (tgt := 44) dX4_pays_77 (by decide) ?_
        exact ih (c + 1) X1 (by omega) (by omega) (g.to (payK_no h2).symm)
      · skip
        refine go_aloadn0 (q := 67) dX4_pays_66 rfl ?_
        refine go_iload5 (q := 69) dX4_pays_67 rfl ?_
        refine go_iconstN (n := 1) (q := 70) dX4_pays_69 rfl ?_
        refine go_iloadn2 (q := 71) dX4_pays_70 rfl ?_
        refine go_ix3 (q := 74) dX4_pays_71 lk_X4_65 (by decide) (by decide) (Nat.le_of_ble_eq_true rfl) rfl (r_puts (by omega) (by decide) ?_)
        refine go_iincN5 (n := 1) (q := 77) dX4_pays_74 rfl (by decide) rfl ?_
        refine go_goto (tgt := 44) dX4_pays_77 (by decide) ?_
        exact ih (c + 1) _ (by omega) (by omega) ((g.u 1 c t).to (payK_yes h2).symm)

set_option maxHeartbeats 4000000 in
set_option maxRecDepth 100000 in
theorem r_pays {S : St} {N : Nat → Nat → Int64} {X : St} {Y : Nat → Int64} {Q : Option Value → AH → Prop} {f t v : Nat} (hw : WF (X 0)) (hf : f ≤ 3) (hv1 : 1 ≤ v) (hv : v ≤ 9999) (hO : ∀ X', Xc X X' (payM (X 0) f t v) → Q (some (.int (nI (chs (X 0) f v)))) (hp S N X' Y)) : Cn 5 yX4_pays cX4_pays 6 (some .int) [.ref 69, .int (nI f), .int (nI t), .int (nI v)] (hp S N X Y) Q := by
  refine cn_of (own := RX4) (lo := [some (.ref 69), some (.int (nI f)), some (.int (nI t)), some (.int (nI v)), none, none]) 2 rfl (by decide +kernel) rfl (Nat.le_of_ble_eq_true rfl) ?_
  refine go_aloadn0 (q := 1) dX4_pays_0 rfl ?_
  refine go_iloadn1 (q := 2) dX4_pays_1 rfl ?_
  refine go_iloadn3 (q := 3) dX4_pays_2 rfl ?_
  refine go_ix2 (q := 6) dX4_pays_3 lk_X4_125 (by decide) (by decide) (Nat.le_of_ble_eq_true rfl) rfl (r_findSet hw hf hv1 hv (fun X1 g1 e1 h4 hI => ?_))
  have hwl := wset_le hw (chs (X 0) f v)
  refine go_istore4 (q := 8) dX4_pays_6 rfl (by decide) rfl ?_
  refine go_aloadn0 (q := 9) dX4_pays_8 rfl ?_
  refine go_xg (q := 12) dX4_pays_9 fl_X4_7 rfl rfl ?_
  refine go_iconstN (n := 3) (q := 13) dX4_pays_12 rfl ?_
  refine go_dup2 (q := 14) dX4_pays_13 rfl rfl rfl ?_
  refine go_rld (q := 15) dX4_pays_14 (rr_13 (f := 3) (by decide)) rfl ?_
  rw [g1.1]
  refine go_aloadn0 (q := 16) dX4_pays_15 rfl ?_
  refine go_xg (q := 19) dX4_pays_16 fl_X4_35 rfl rfl ?_
  refine go_iload4 (q := 21) dX4_pays_19 rfl ?_
  refine go_xsld (q := 22) dX4_pays_21 h4 rfl ?_
  rw [e1]
  refine go_iloadn3 (q := 23) dX4_pays_22 rfl ?_
  refine go_icmp_geN (tgt := 38) (q := 26) dX4_pays_23 (by decide) rfl (by omega) (by omega) (fun h1 => ?_) (fun h1 => ?_)
  · skip
    refine go_iconstN (n := 0) (q := 39) dX4_pays_38 rfl ?_
    refine go_iaddN (q := 40) dX4_pays_39 rfl ?_
    refine go_rst (q := 41) dX4_pays_40 (rr_13 (f := 3) (by decide)) rfl ?_
    refine go_iconstN (n := 0) (q := 42) dX4_pays_41 rfl ?_
    refine go_istore5 (q := 44) dX4_pays_42 rfl (by decide) rfl ?_
    exact r_pays_44 hw hf hv1 hv hO h4 (X 0 13 0 + 1) 0 _ (by omega) (by omega) ((g1.u 13 3 _).to (by rw [payK_0, show v - wset (X 0) (chs (X 0) f v) = 0 by omega]))
  · skip
    refine go_iloadn3 (q := 27) dX4_pays_26 rfl ?_
    refine go_aloadn0 (q := 28) dX4_pays_27 rfl ?_
    refine go_xg (q := 31) dX4_pays_28 fl_X4_35 rfl rfl ?_
    refine go_iload4 (q := 33) dX4_pays_31 rfl ?_
    refine go_xsld (q := 34) dX4_pays_33 h4 rfl ?_
    rw [e1]
    refine go_isubN (q := 35) dX4_pays_34 (by omega) rfl ?_
    refine go_goto (tgt := 39) dX4_pays_35 (by decide) ?_
    refine go_iaddN (q := 40) dX4_pays_39 rfl ?_
    refine go_rst (q := 41) dX4_pays_40 (rr_13 (f := 3) (by decide)) rfl ?_
    refine go_iconstN (n := 0) (q := 42) dX4_pays_41 rfl ?_
    refine go_istore5 (q := 44) dX4_pays_42 rfl (by decide) rfl ?_
    exact r_pays_44 hw hf hv1 hv hO h4 (X 0 13 0 + 1) 0 _ (by omega) (by omega) ((g1.u 13 3 _).to (by rw [payK_0]))

set_option maxHeartbeats 4000000 in
set_option maxRecDepth 100000 in
theorem r_pay {S : St} {N : Nat → Nat → Int64} {X : St} {Y : Nat → Int64} {Q : Option Value → AH → Prop} {x y v : Int32} (hw : WF (X 0)) (hB : ¬ ((rg x 0 3 ∧ rg y 0 3 ∧ x ≠ y) ∧ rg v 1 9999) → ∀ X', Xf X X' 0 → Q (some (.int (-1000000001))) (hp S N X' Y)) (hO : ∀ f t a, f ≤ 3 → t ≤ 3 → f ≠ t → 1 ≤ a ∧ a ≤ 9999 → x = nI f → y = nI t → v = nI a → ∀ X', Xp X X' (payM (X 0) f t a) → Q (some (.int (nI (chs (X 0) f a)))) (hp S N X' Y)) : Cn 6 yX4_pay cX4_pay 4 (some .int) [.ref 69, .int x, .int y, .int v] (hp S N X Y) Q := by
  refine cn_of (own := RX4) (lo := [some (.ref 69), some (.int x), some (.int y), some (.int v)]) 0 rfl (by decide +kernel) rfl (Nat.le_of_ble_eq_true rfl) ?_
  refine go_iloadn1 (q := 1) dX4_pay_0 rfl ?_
  refine go_is1_ (q := 4) dX4_pay_1 lk_X4_43 (by decide) (by decide) (Nat.le_of_ble_eq_true rfl) rfl (r_isOwner ?_)
  refine go_ifeqB (tgt := 41) (q := 7) dX4_pay_4 (by decide) rfl (fun h1 => ?_) (fun h1 => ?_)
  · skip
    refine go_aloadn0 (q := 42) dX4_pay_41 rfl ?_
    refine go_ldc (q := 44) dX4_pay_42 ko_X4_42 rfl ?_
    refine go_ix1 (q := 47) dX4_pay_44 lk_X4_57 (by decide) (by decide) (Nat.le_of_ble_eq_true rfl) rfl (r_finds (p := 0) (by decide) (by decide) ?_)
    exact go_iret dX4_pay_47 rfl (hB (fun z => h1 z.1.1) _ (Xf.rf 0))
  · skip
    refine go_iloadn2 (q := 8) dX4_pay_7 rfl ?_
    refine go_is1_ (q := 11) dX4_pay_8 lk_X4_43 (by decide) (by decide) (Nat.le_of_ble_eq_true rfl) rfl (r_isOwner ?_)
    refine go_ifeqB (tgt := 41) (q := 14) dX4_pay_11 (by decide) rfl (fun h2 => ?_) (fun h2 => ?_)
    · skip
      refine go_aloadn0 (q := 42) dX4_pay_41 rfl ?_
      refine go_ldc (q := 44) dX4_pay_42 ko_X4_42 rfl ?_
      refine go_ix1 (q := 47) dX4_pay_44 lk_X4_57 (by decide) (by decide) (Nat.le_of_ble_eq_true rfl) rfl (r_finds (p := 0) (by decide) (by decide) ?_)
      exact go_iret dX4_pay_47 rfl (hB (fun z => h2 z.1.2.1) _ (Xf.rf 0))
    · skip
      refine go_iloadn1 (q := 15) dX4_pay_14 rfl ?_
      refine go_iloadn2 (q := 16) dX4_pay_15 rfl ?_
      refine go_icmp_eq (tgt := 41) (q := 19) dX4_pay_16 (by decide) rfl (fun h3 => ?_) (fun h3 => ?_)
      · skip
        refine go_aloadn0 (q := 42) dX4_pay_41 rfl ?_
        refine go_ldc (q := 44) dX4_pay_42 ko_X4_42 rfl ?_
        refine go_ix1 (q := 47) dX4_pay_44 lk_X4_57 (by decide) (by decide) (Nat.le_of_ble_eq_true rfl) rfl (r_finds (p := 0) (by decide) (by decide) ?_)
        exact go_iret dX4_pay_47 rfl (hB (fun z => z.1.2.2 h3) _ (Xf.rf 0))
      · skip
        refine go_iloadn3 (q := 20) dX4_pay_19 rfl ?_
        refine go_i2l (q := 21) dX4_pay_20 rfl ?_
        refine go_lconst (q := 22) dX4_pay_21 rfl ?_
        refine go_ldc2 (q := 25) dX4_pay_22 ko_X4_123 rfl ?_
        refine go_is3_ (q := 28) dX4_pay_25 lk_X4_49 (by decide) (by decide) (Nat.le_of_ble_eq_true rfl) rfl (r_isIn (l := 1) (m := 9999) (by decide) (by decide) ?_)
        refine go_ifeqB (tgt := 41) (q := 31) dX4_pay_28 (by decide) rfl (fun h4 => ?_) (fun h4 => ?_)
        · skip
          refine go_aloadn0 (q := 42) dX4_pay_41 rfl ?_
          refine go_ldc (q := 44) dX4_pay_42 ko_X4_42 rfl ?_
          refine go_ix1 (q := 47) dX4_pay_44 lk_X4_57 (by decide) (by decide) (Nat.le_of_ble_eq_true rfl) rfl (r_finds (p := 0) (by decide) (by decide) ?_)
          exact go_iret dX4_pay_47 rfl (hB (fun z => h4 z.2) _ (Xf.rf 0))
        · skip
          obtain ⟨f, hf, rfl, -, -⟩ := rg_nat (n := 3) h1 (by omega) (by omega)
          obtain ⟨t, ht, rfl, -, -⟩ := rg_nat (n := 3) h2 (by omega) (by omega)
          obtain ⟨a, ha, rfl, ha1, -⟩ := rg_nat (n := 9999) h4 (by omega) (by omega)
          have hne : f ≠ t := fun e => h3 (by rw [e])
          refine go_aloadn0 (q := 32) dX4_pay_31 rfl ?_
          refine go_iloadn1 (q := 33) dX4_pay_32 rfl ?_
          refine go_iloadn2 (q := 34) dX4_pay_33 rfl ?_
          refine go_iloadn3 (q := 35) dX4_pay_34 rfl ?_
          refine go_ix3 (q := 38) dX4_pay_35 lk_X4_134 (by decide) (by decide) (Nat.le_of_ble_eq_true rfl) rfl (r_pays hw hf (by omega) ha (fun X1 g1 => ?_))
          refine go_goto (tgt := 47) dX4_pay_38 (by decide) ?_
          exact go_iret dX4_pay_47 rfl (hO f t a hf ht hne ⟨by omega, ha⟩ rfl rfl rfl _ g1.p)

set_option maxHeartbeats 4000000 in
set_option maxRecDepth 100000 in
theorem r_lends {S : St} {N : Nat → Nat → Int64} {X : St} {Y : Nat → Int64} {Q : Option Value → AH → Prop} {f t v n : Nat} (hn : X 0 13 1 < 8) (hO : ∀ X', Xc X X' (addL (X 0) f t v n) → Q (some (.int (nI (X 0 13 1)))) (hp S N X' Y)) : Cn 2 yX4_lends cX4_lends 6 (some .int) [.ref 69, .int (nI f), .int (nI t), .int (nI v), .int (nI n)] (hp S N X Y) Q := by
  refine cn_of (own := RX4) (lo := [some (.ref 69), some (.int (nI f)), some (.int (nI t)), some (.int (nI v)), some (.int (nI n)), none]) 1 rfl (by decide +kernel) rfl (Nat.le_of_ble_eq_true rfl) ?_
  refine go_bipushN (v := 68) (q := 2) dX4_lends_0 (by decide) rfl ?_
  refine go_iconstN (n := 5) (q := 3) dX4_lends_2 rfl ?_
  refine go_aloadn0 (q := 4) dX4_lends_3 rfl ?_
  refine go_xg (q := 7) dX4_lends_4 fl_X4_7 rfl rfl ?_
  refine go_iconstN (n := 1) (q := 8) dX4_lends_7 rfl ?_
  refine go_rld (q := 9) dX4_lends_8 (rr_13 (f := 1) (by decide)) rfl ?_
  refine go_imulN (q := 10) dX4_lends_9 rfl ?_
  refine go_iaddN (q := 11) dX4_lends_10 rfl ?_
  refine go_istore5 (q := 13) dX4_lends_11 rfl (by decide) rfl ?_
  refine go_aloadn0 (q := 14) dX4_lends_13 rfl ?_
  refine go_xg (q := 17) dX4_lends_14 fl_X4_7 rfl rfl ?_
  refine go_iload5 (q := 19) dX4_lends_17 rfl ?_
  refine go_iloadn1 (q := 20) dX4_lends_19 rfl ?_
  refine go_rst (q := 21) dX4_lends_20 (rr_loan (w := 0) hn (by decide)) rfl ?_
  refine go_aloadn0 (q := 22) dX4_lends_21 rfl ?_
  refine go_xg (q := 25) dX4_lends_22 fl_X4_7 rfl rfl ?_
  refine go_iload5 (q := 27) dX4_lends_25 rfl ?_
  refine go_iconstN (n := 1) (q := 28) dX4_lends_27 rfl ?_
  refine go_iaddN (q := 29) dX4_lends_28 rfl ?_
  refine go_iloadn2 (q := 30) dX4_lends_29 rfl ?_
  refine go_rst (q := 31) dX4_lends_30 (rr_loan (w := 1) hn (by decide)) rfl ?_
  refine go_aloadn0 (q := 32) dX4_lends_31 rfl ?_
  refine go_xg (q := 35) dX4_lends_32 fl_X4_7 rfl rfl ?_
  refine go_iload5 (q := 37) dX4_lends_35 rfl ?_
  refine go_iconstN (n := 2) (q := 38) dX4_lends_37 rfl ?_
  refine go_iaddN (q := 39) dX4_lends_38 rfl ?_
  refine go_iloadn3 (q := 40) dX4_lends_39 rfl ?_
  refine go_rst (q := 41) dX4_lends_40 (rr_loan (w := 2) hn (by decide)) rfl ?_
  refine go_aloadn0 (q := 42) dX4_lends_41 rfl ?_
  refine go_xg (q := 45) dX4_lends_42 fl_X4_7 rfl rfl ?_
  refine go_iload5 (q := 47) dX4_lends_45 rfl ?_
  refine go_iconstN (n := 3) (q := 48) dX4_lends_47 rfl ?_
  refine go_iaddN (q := 49) dX4_lends_48 rfl ?_
  refine go_aloadn0 (q := 50) dX4_lends_49 rfl ?_
  refine go_xg (q := 53) dX4_lends_50 fl_X4_7 rfl rfl ?_
  refine go_iconstN (n := 2) (q := 54) dX4_lends_53 rfl ?_
  refine go_rld (q := 55) dX4_lends_54 (rr_13 (f := 2) (by decide)) rfl ?_
  refine go_st (st' := [.int (nI (X 0 13 2)), .int (nI (68 + 5 * X 0 13 1 + 3)), .ref 70]) rfl ?_
  refine go_iload4 (q := 57) dX4_lends_55 rfl ?_
  refine go_iaddN (q := 58) dX4_lends_57 rfl ?_
  refine go_rst (q := 59) dX4_lends_58 (rr_loan (w := 3) hn (by decide)) rfl ?_
  refine go_aloadn0 (q := 60) dX4_lends_59 rfl ?_
  refine go_xg (q := 63) dX4_lends_60 fl_X4_7 rfl rfl ?_
  refine go_iload5 (q := 65) dX4_lends_63 rfl ?_
  refine go_iconstN (n := 4) (q := 66) dX4_lends_65 rfl ?_
  refine go_iaddN (q := 67) dX4_lends_66 rfl ?_
  refine go_iconstN (n := 0) (q := 68) dX4_lends_67 rfl ?_
  refine go_rst (q := 69) dX4_lends_68 (rr_loan (w := 4) hn (by decide)) rfl ?_
  refine go_aloadn0 (q := 70) dX4_lends_69 rfl ?_
  refine go_xg (q := 73) dX4_lends_70 fl_X4_7 rfl rfl ?_
  refine go_iconstN (n := 1) (q := 74) dX4_lends_73 rfl ?_
  refine go_dup2 (q := 75) dX4_lends_74 rfl rfl rfl ?_
  refine go_rld (q := 76) dX4_lends_75 (rr_13 (f := 1) (by decide)) rfl ?_
  refine go_st (st' := [.int (nI (X 0 13 1)), .int (nI 1), .ref 70]) rfl ?_
  refine go_iconstN (n := 1) (q := 77) dX4_lends_76 rfl ?_
  refine go_iaddN (q := 78) dX4_lends_77 rfl ?_
  refine go_rst (q := 79) dX4_lends_78 (rr_13 (f := 1) (by decide)) rfl ?_
  refine go_aloadn0 (q := 80) dX4_lends_79 rfl ?_
  refine go_xg (q := 83) dX4_lends_80 fl_X4_7 rfl rfl ?_
  refine go_iconstN (n := 1) (q := 84) dX4_lends_83 rfl ?_
  refine go_rld (q := 85) dX4_lends_84 (rr_13 (f := 1) (by decide)) rfl ?_
  refine go_st (st' := [.int (nI (X 0 13 1 + 1))]) rfl ?_
  refine go_iconstN (n := 1) (q := 86) dX4_lends_85 rfl ?_
  refine go_isubN (q := 87) dX4_lends_86 (by omega) rfl ?_
  exact go_iretN dX4_lends_87 rfl (show X 0 13 1 = X 0 13 1 + 1 - 1 by omega) (hO _ ((((((Xc.rf.u 6 _ f).u 7 _ t).u 8 _ v).u 9 _ (X 0 13 2 + n)).u 10 _ 0).u 13 1 (X 0 13 1 + 1)))

set_option maxHeartbeats 4000000 in
set_option maxRecDepth 100000 in
theorem r_loan {S : St} {N : Nat → Nat → Int64} {X : St} {Y : Nat → Int64} {Q : Option Value → AH → Prop} {x y v z : Int32} (hw : WF (X 0)) (hB : ¬ ((rg x 0 3 ∧ rg y 0 3 ∧ x ≠ y) ∧ rg v 1 9999 ∧ rg z 1 120) → ∀ X', Xf X X' 0 → Q (some (.int (-1000000001))) (hp S N X' Y)) (hS : ∀ n, n ≤ 120 → z = nI n → ((rg x 0 3 ∧ rg y 0 3 ∧ x ≠ y) ∧ rg v 1 9999 ∧ rg z 1 120) → 9999 < X 0 13 2 + n → ∀ X', Xf X X' 4 → Q (some (.int (-1000000005))) (hp S N X' Y)) (hF : ∀ n, n ≤ 120 → z = nI n → ((rg x 0 3 ∧ rg y 0 3 ∧ x ≠ y) ∧ rg v 1 9999 ∧ rg z 1 120) → ¬ 9999 < X 0 13 2 + n → ¬ X 0 13 1 < 8 → ∀ X', Xf X X' 1 → Q (some (.int (-1000000002))) (hp S N X' Y)) (hO : ∀ f t a n, f ≤ 3 → t ≤ 3 → f ≠ t → 1 ≤ a ∧ a ≤ 9999 → n ≤ 120 → 1 ≤ n → x = nI f → y = nI t → v = nI a → z = nI n → ¬ 9999 < X 0 13 2 + n → X 0 13 1 < 8 → ∀ X', Xp X X' (addL (X 0) f t a n) → Q (some (.int (nI (X 0 13 1)))) (hp S N X' Y)) : Cn 3 yX4_loan cX4_loan 5 (some .int) [.ref 69, .int x, .int y, .int v, .int z] (hp S N X Y) Q := by
  refine cn_of (own := RX4) (lo := [some (.ref 69), some (.int x), some (.int y), some (.int v), some (.int z)]) 0 rfl (by decide +kernel) rfl (Nat.le_of_ble_eq_true rfl) ?_
  have hlo := hw.lo
  refine go_iloadn1 (q := 1) dX4_loan_0 rfl ?_
  refine go_is1_ (q := 4) dX4_loan_1 lk_X4_43 (by decide) (by decide) (Nat.le_of_ble_eq_true rfl) rfl (r_isOwner ?_)
  refine go_ifeqB (tgt := 44) (q := 7) dX4_loan_4 (by decide) rfl (fun h1 => ?_) (fun h1 => ?_)
  · skip
    refine go_aloadn0 (q := 45) dX4_loan_44 rfl ?_
    refine go_ldc (q := 47) dX4_loan_45 ko_X4_42 rfl ?_
    refine go_ix1 (q := 50) dX4_loan_47 lk_X4_57 (by decide) (by decide) (Nat.le_of_ble_eq_true rfl) rfl (r_finds (p := 0) (by decide) (by decide) ?_)
    exact go_iret dX4_loan_50 rfl (hB (fun z => h1 z.1.1) _ (Xf.rf 0))
  · skip
    refine go_iloadn2 (q := 8) dX4_loan_7 rfl ?_
    refine go_is1_ (q := 11) dX4_loan_8 lk_X4_43 (by decide) (by decide) (Nat.le_of_ble_eq_true rfl) rfl (r_isOwner ?_)
    refine go_ifeqB (tgt := 44) (q := 14) dX4_loan_11 (by decide) rfl (fun h2 => ?_) (fun h2 => ?_)
    · skip
      refine go_aloadn0 (q := 45) dX4_loan_44 rfl ?_
      refine go_ldc (q := 47) dX4_loan_45 ko_X4_42 rfl ?_
      refine go_ix1 (q := 50) dX4_loan_47 lk_X4_57 (by decide) (by decide) (Nat.le_of_ble_eq_true rfl) rfl (r_finds (p := 0) (by decide) (by decide) ?_)
      exact go_iret dX4_loan_50 rfl (hB (fun z => h2 z.1.2.1) _ (Xf.rf 0))
    · skip
      refine go_iloadn1 (q := 15) dX4_loan_14 rfl ?_
      refine go_iloadn2 (q := 16) dX4_loan_15 rfl ?_
      refine go_icmp_eq (tgt := 44) (q := 19) dX4_loan_16 (by decide) rfl (fun h3 => ?_) (fun h3 => ?_)
      · skip
        refine go_aloadn0 (q := 45) dX4_loan_44 rfl ?_
        refine go_ldc (q := 47) dX4_loan_45 ko_X4_42 rfl ?_
        refine go_ix1 (q := 50) dX4_loan_47 lk_X4_57 (by decide) (by decide) (Nat.le_of_ble_eq_true rfl) rfl (r_finds (p := 0) (by decide) (by decide) ?_)
        exact go_iret dX4_loan_50 rfl (hB (fun z => z.1.2.2 h3) _ (Xf.rf 0))
      · skip
        refine go_iloadn3 (q := 20) dX4_loan_19 rfl ?_
        refine go_i2l (q := 21) dX4_loan_20 rfl ?_
        refine go_lconst (q := 22) dX4_loan_21 rfl ?_
        refine go_ldc2 (q := 25) dX4_loan_22 ko_X4_123 rfl ?_
        refine go_is3_ (q := 28) dX4_loan_25 lk_X4_49 (by decide) (by decide) (Nat.le_of_ble_eq_true rfl) rfl (r_isIn (l := 1) (m := 9999) (by decide) (by decide) ?_)
        refine go_ifeqB (tgt := 44) (q := 31) dX4_loan_28 (by decide) rfl (fun h4 => ?_) (fun h4 => ?_)
        · skip
          refine go_aloadn0 (q := 45) dX4_loan_44 rfl ?_
          refine go_ldc (q := 47) dX4_loan_45 ko_X4_42 rfl ?_
          refine go_ix1 (q := 50) dX4_loan_47 lk_X4_57 (by decide) (by decide) (Nat.le_of_ble_eq_true rfl) rfl (r_finds (p := 0) (by decide) (by decide) ?_)
          exact go_iret dX4_loan_50 rfl (hB (fun z => h4 z.2.1) _ (Xf.rf 0))
        · skip
          refine go_iload4 (q := 33) dX4_loan_31 rfl ?_
          refine go_i2l (q := 34) dX4_loan_33 rfl ?_
          refine go_lconst (q := 35) dX4_loan_34 rfl ?_
          refine go_ldc2 (q := 38) dX4_loan_35 ko_X4_137 rfl ?_
          refine go_is3_ (q := 41) dX4_loan_38 lk_X4_49 (by decide) (by decide) (Nat.le_of_ble_eq_true rfl) rfl (r_isIn (l := 1) (m := 120) (by decide) (by decide) ?_)
          refine go_ifneB (tgt := 51) (q := 44) dX4_loan_41 (by decide) rfl (fun h5 => ?_) (fun h5 => ?_)
          · skip
            have hall : ((rg x 0 3 ∧ rg y 0 3 ∧ x ≠ y) ∧ rg v 1 9999 ∧ rg z 1 120) := ⟨⟨h1, h2, h3⟩, h4, h5⟩
            obtain ⟨n, hn, rfl, hn1, -⟩ := rg_nat (n := 120) h5 (by omega) (by omega)
            refine go_aloadn0 (q := 52) dX4_loan_51 rfl ?_
            refine go_iload4 (q := 54) dX4_loan_52 rfl ?_
            refine go_ix1 (q := 57) dX4_loan_54 lk_X4_139 (by decide) (by decide) (Nat.le_of_ble_eq_true rfl) rfl (r_isFar hw (by omega) ?_)
            refine go_ifeqB (tgt := 67) (q := 60) dX4_loan_57 (by decide) rfl (fun h6 => ?_) (fun h6 => ?_)
            · skip
              refine go_aloadn0 (q := 68) dX4_loan_67 rfl ?_
              refine go_xg (q := 71) dX4_loan_68 fl_X4_7 rfl rfl ?_
              refine go_iconstN (n := 1) (q := 72) dX4_loan_71 rfl ?_
              refine go_rld (q := 73) dX4_loan_72 (rr_13 (f := 1) (by decide)) rfl ?_
              refine go_bipushN (v := 8) (q := 75) dX4_loan_73 (by decide) rfl ?_
              refine go_icmp_neN (tgt := 87) (q := 78) dX4_loan_75 (by decide) rfl (by omega) (by omega) (fun h7 => ?_) (fun h7 => ?_)
              · skip
                obtain ⟨f, hf, rfl, -, -⟩ := rg_nat (n := 3) h1 (by omega) (by omega)
                obtain ⟨t, ht, rfl, -, -⟩ := rg_nat (n := 3) h2 (by omega) (by omega)
                obtain ⟨a, ha, rfl, ha1, -⟩ := rg_nat (n := 9999) h4 (by omega) (by omega)
                have hne : f ≠ t := fun e => h3 (by rw [e])
                refine go_aloadn0 (q := 88) dX4_loan_87 rfl ?_
                refine go_iloadn1 (q := 89) dX4_loan_88 rfl ?_
                refine go_iloadn2 (q := 90) dX4_loan_89 rfl ?_
                refine go_iloadn3 (q := 91) dX4_loan_90 rfl ?_
                refine go_iload4 (q := 93) dX4_loan_91 rfl ?_
                refine go_ix4 (q := 96) dX4_loan_93 lk_X4_142 (by decide) (by decide) (Nat.le_of_ble_eq_true rfl) rfl (r_lends (by omega) (fun X1 g1 => ?_))
                exact go_iret dX4_loan_96 rfl (hO f t a n hf ht hne ⟨by omega, ha⟩ hn (by omega) rfl rfl rfl rfl h6 (by omega) _ g1.p)
              · skip
                refine go_aloadn0 (q := 79) dX4_loan_78 rfl ?_
                refine go_ldc (q := 81) dX4_loan_79 ko_X4_71 rfl ?_
                refine go_ix1 (q := 84) dX4_loan_81 lk_X4_57 (by decide) (by decide) (Nat.le_of_ble_eq_true rfl) rfl (r_finds (p := 1) (by decide) (by decide) ?_)
                refine go_goto (tgt := 96) dX4_loan_84 (by decide) ?_
                exact go_iret dX4_loan_96 rfl (hF n hn rfl hall h6 (by omega) _ (Xf.rf 1))
            · skip
              refine go_aloadn0 (q := 61) dX4_loan_60 rfl ?_
              refine go_ldc (q := 63) dX4_loan_61 ko_X4_119 rfl ?_
              refine go_ix1 (q := 66) dX4_loan_63 lk_X4_57 (by decide) (by decide) (Nat.le_of_ble_eq_true rfl) rfl (r_finds (p := 4) (by decide) (by decide) ?_)
              exact go_iret dX4_loan_66 rfl (hS n hn rfl hall h6 _ (Xf.rf 4))
          · skip
            refine go_aloadn0 (q := 45) dX4_loan_44 rfl ?_
            refine go_ldc (q := 47) dX4_loan_45 ko_X4_42 rfl ?_
            refine go_ix1 (q := 50) dX4_loan_47 lk_X4_57 (by decide) (by decide) (Nat.le_of_ble_eq_true rfl) rfl (r_finds (p := 0) (by decide) (by decide) ?_)
            exact go_iret dX4_loan_50 rfl (hB (fun z => h5 z.2.2) _ (Xf.rf 0))

set_option maxHeartbeats 4000000 in
set_option maxRecDepth 100000 in
theorem r_loanOf {S : St} {N : Nat → Nat → Int64} {X : St} {Y : Nat → Int64} {Q : Option Value → AH → Prop} {x w : Int32} (hw : WF (X 0)) (hB : ¬ (rg x 0 ((X 0 13 1 : Int) - 1) ∧ rg w 0 4) → ∀ X', Xf X X' 0 → Q (some (.int (-1000000001))) (hp S N X' Y)) (hO : ∀ i j, i < X 0 13 1 → i < 8 → j ≤ 4 → x = nI i → w = nI j → Q (some (.int (nI (X 0 (6 + j) i)))) (hp S N X Y)) : Cn 3 yX4_loanOf cX4_loanOf 3 (some .int) [.ref 69, .int x, .int w] (hp S N X Y) Q := by
  refine cn_of (own := RX4) (lo := [some (.ref 69), some (.int x), some (.int w)]) 0 rfl (by decide +kernel) rfl (Nat.le_of_ble_eq_true rfl) ?_
  have hlo := hw.lo
  refine go_iloadn1 (q := 1) dX4_loanOf_0 rfl ?_
  refine go_i2l (q := 2) dX4_loanOf_1 rfl ?_
  refine go_lconst (q := 3) dX4_loanOf_2 rfl ?_
  refine go_aloadn0 (q := 4) dX4_loanOf_3 rfl ?_
  refine go_xg (q := 7) dX4_loanOf_4 fl_X4_7 rfl rfl ?_
  refine go_iconstN (n := 1) (q := 8) dX4_loanOf_7 rfl ?_
  refine go_rld (q := 9) dX4_loanOf_8 (rr_13 (f := 1) (by decide)) rfl ?_
  refine go_iconstN (n := 1) (q := 10) dX4_loanOf_9 rfl ?_
  refine go_isub (q := 11) dX4_loanOf_10 rfl ?_
  refine go_i2l (q := 12) dX4_loanOf_11 rfl ?_
  refine go_is3_ (q := 15) dX4_loanOf_12 lk_X4_49 (by decide) (by decide) (Nat.le_of_ble_eq_true rfl) rfl (r_isIn (l := 0) (m := (X 0 13 1 : Int) - 1) (by decide) (by rw [i64]; exact pk_sub_toInt (by omega) (by decide)) ?_)
  refine go_ifeqB (tgt := 46) (q := 18) dX4_loanOf_15 (by decide) rfl (fun h1 => ?_) (fun h1 => ?_)
  · skip
    refine go_aloadn0 (q := 47) dX4_loanOf_46 rfl ?_
    refine go_ldc (q := 49) dX4_loanOf_47 ko_X4_42 rfl ?_
    refine go_ix1 (q := 52) dX4_loanOf_49 lk_X4_57 (by decide) (by decide) (Nat.le_of_ble_eq_true rfl) rfl (r_finds (p := 0) (by decide) (by decide) ?_)
    exact go_iret dX4_loanOf_52 rfl (hB (fun z => h1 z.1) _ (Xf.rf 0))
  · skip
    refine go_iloadn2 (q := 19) dX4_loanOf_18 rfl ?_
    refine go_i2l (q := 20) dX4_loanOf_19 rfl ?_
    refine go_lconst (q := 21) dX4_loanOf_20 rfl ?_
    refine go_ldc2 (q := 24) dX4_loanOf_21 ko_X4_82 rfl ?_
    refine go_is3_ (q := 27) dX4_loanOf_24 lk_X4_49 (by decide) (by decide) (Nat.le_of_ble_eq_true rfl) rfl (r_isIn (l := 0) (m := 4) (by decide) (by decide) ?_)
    refine go_ifeqB (tgt := 46) (q := 30) dX4_loanOf_27 (by decide) rfl (fun h2 => ?_) (fun h2 => ?_)
    · skip
      refine go_aloadn0 (q := 47) dX4_loanOf_46 rfl ?_
      refine go_ldc (q := 49) dX4_loanOf_47 ko_X4_42 rfl ?_
      refine go_ix1 (q := 52) dX4_loanOf_49 lk_X4_57 (by decide) (by decide) (Nat.le_of_ble_eq_true rfl) rfl (r_finds (p := 0) (by decide) (by decide) ?_)
      exact go_iret dX4_loanOf_52 rfl (hB (fun z => h2 z.2) _ (Xf.rf 0))
    · skip
      obtain ⟨i, -, rfl, hi0, hi1⟩ := rg_nat (n := 8) h1 (by omega) (by omega)
      obtain ⟨j, hj, rfl, -, -⟩ := rg_nat (n := 4) h2 (by omega) (by omega)
      refine go_aloadn0 (q := 31) dX4_loanOf_30 rfl ?_
      refine go_xg (q := 34) dX4_loanOf_31 fl_X4_7 rfl rfl ?_
      refine go_bipushN (v := 68) (q := 36) dX4_loanOf_34 (by decide) rfl ?_
      refine go_iconstN (n := 5) (q := 37) dX4_loanOf_36 rfl ?_
      refine go_iloadn1 (q := 38) dX4_loanOf_37 rfl ?_
      refine go_imulN (q := 39) dX4_loanOf_38 rfl ?_
      refine go_iaddN (q := 40) dX4_loanOf_39 rfl ?_
      refine go_iloadn2 (q := 41) dX4_loanOf_40 rfl ?_
      refine go_iaddN (q := 42) dX4_loanOf_41 rfl ?_
      refine go_rld (q := 43) dX4_loanOf_42 (rr_loan (show i < 8 by omega) (show j < 5 by omega)) rfl ?_
      refine go_goto (tgt := 52) dX4_loanOf_43 (by decide) ?_
      exact go_iret dX4_loanOf_52 rfl (hO i j (by omega) (by omega) hj rfl rfl)
