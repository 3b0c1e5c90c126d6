def bkY (Y : Nat → Int64) (t b : Nat) (f : Nat → Nat) (n : Nat) : Nat → Int64 := fun i => if 40 * t ≤ i ∧ i < 40 * t + n then lowB b (nI (f (i - 40 * t))).toInt64 else Y i
theorem bkY_0 (Y : Nat → Int64) (t b : Nat) (f : Nat → Nat) : bkY Y t b f 0 = Y := by
  funext i
  unfold bkY
  rw [if_neg (by omega)]
theorem bkY_s (Y : Nat → Int64) (t b : Nat) (f : Nat → Nat) (n : Nat) : vp_updL (bkY Y t b f n) (40 * t + n) (lowB b (nI (f n)).toInt64) = bkY Y t b f (n + 1) := by
  funext i
  unfold vp_updL bkY
  by_cases e : i = 40 * t + n
  · rw [if_pos e, if_pos (show 40 * t ≤ i ∧ i < 40 * t + (n + 1) by omega), show i - 40 * t = n by omega]
  · rw [if_neg e]
    by_cases h : 40 * t ≤ i ∧ i < 40 * t + n
    · rw [if_pos h, if_pos (show 40 * t ≤ i ∧ i < 40 * t + (n + 1) by omega)]
    · rw [if_neg h, if_neg (show ¬ (40 * t ≤ i ∧ i < 40 * t + (n + 1)) by omega)]

set_option maxHeartbeats 4000000 in
set_option maxRecDepth 100000 in
theorem r_book_B {S : St} {N : Nat → Nat → Int64} {X : St} {Y : Nat → Int64} {Q : Option Value → AH → Prop} {x z : Int32} (hsh : ∀ t, t < 4 → okB (X 3 6 t) ∧ X 3 5 t ≤ 40) (h : ¬ rg x 0 3) (hB : ∀ X', Xf X X' 0 → Q (some (.int (-1000000001))) (hp S N X' Y)) : Go 11 RX4 cX4_book 5 (some .int) 0 [some (.ref 69), some (.int x), some (.int z), none, none] [] (hp S N X Y) Q := by
  refine go_aloadn0 (q := 1) dX4_book_0 rfl ?_
  refine go_iloadn1 (q := 2) dX4_book_1 rfl ?_
  refine go_ix1 (q := 5) dX4_book_2 lk_X4_261 (by decide) (by decide) (Nat.le_of_ble_eq_true rfl) rfl (r_wantsB hsh h ?_)
  refine go_if_eq (tgt := 18) (q := 8) dX4_book_5 (by decide) rfl (fun h1 => ?_) (fun h1 => ?_)
  · skip
    exact absurd h1 (by decide)
  · skip
    refine go_aloadn0 (q := 9) dX4_book_8 rfl ?_
    refine go_aloadn0 (q := 10) dX4_book_9 rfl ?_
    refine go_iloadn1 (q := 11) dX4_book_10 rfl ?_
    refine go_ix1 (q := 14) dX4_book_11 lk_X4_261 (by decide) (by decide) (Nat.le_of_ble_eq_true rfl) rfl (r_wantsB hsh h ?_)
    refine go_ix1 (q := 17) dX4_book_14 lk_X4_57 (by decide) (by decide) (Nat.le_of_ble_eq_true rfl) rfl (r_finds (p := 0) (by decide) (by decide) ?_)
    exact go_iret dX4_book_17 rfl (hB _ (Xf.rf 0))

set_option maxHeartbeats 4000000 in
set_option maxRecDepth 100000 in
theorem r_book_M {S : St} {N : Nat → Nat → Int64} {X : St} {Y : Nat → Int64} {Q : Option Value → AH → Prop} {t : Nat} {z : Int32} (hsh : ∀ t, t < 4 → okB (X 3 6 t) ∧ X 3 5 t ≤ 40) (ht : t < 4) (h : X 3 6 t = 0) (hM : ∀ X', Xf X X' 5 → Q (some (.int (-1000000006))) (hp S N X' Y)) : Go 11 RX4 cX4_book 5 (some .int) 0 [some (.ref 69), some (.int (nI t)), some (.int z), none, none] [] (hp S N X Y) Q := by
  refine go_aloadn0 (q := 1) dX4_book_0 rfl ?_
  refine go_iloadn1 (q := 2) dX4_book_1 rfl ?_
  refine go_ix1 (q := 5) dX4_book_2 lk_X4_261 (by decide) (by decide) (Nat.le_of_ble_eq_true rfl) rfl (r_wantsM hsh ht h ?_)
  refine go_if_eq (tgt := 18) (q := 8) dX4_book_5 (by decide) rfl (fun h1 => ?_) (fun h1 => ?_)
  · skip
    exact absurd h1 (by decide)
  · skip
    refine go_aloadn0 (q := 9) dX4_book_8 rfl ?_
    refine go_aloadn0 (q := 10) dX4_book_9 rfl ?_
    refine go_iloadn1 (q := 11) dX4_book_10 rfl ?_
    refine go_ix1 (q := 14) dX4_book_11 lk_X4_261 (by decide) (by decide) (Nat.le_of_ble_eq_true rfl) rfl (r_wantsM hsh ht h ?_)
    refine go_ix1 (q := 17) dX4_book_14 lk_X4_57 (by decide) (by decide) (Nat.le_of_ble_eq_true rfl) rfl (r_finds (p := 5) (by decide) (by decide) ?_)
    exact go_iret dX4_book_17 rfl (hM _ (Xf.rf 5))

set_option maxHeartbeats 4000000 in
set_option maxRecDepth 100000 in
theorem r_book_66 {S : St} {N : Nat → Nat → Int64} {X : St} {Y : Nat → Int64} {Q : Option Value → AH → Prop} {t n : Nat} {X1 : St} (hw : WF (X 0)) (hsh : ∀ t, t < 4 → okB (X 3 6 t) ∧ X 3 5 t ≤ 40) (ht : t < 4) (h6 : ¬ X 3 6 t = 0) (hm : X 0 13 2 + n ≤ 10000) (g1 : Xc (uk X 2 (X 0)) X1 (monN (X 0) n)) (hO : ∀ X', Xp X X' (X 0) → Q (some (.int (nI (min (X 0 13 0) (X 3 5 t))))) (hp S N X' (bkY Y t (X 3 6 t) (fun c => wrt (monN (X 0) n) c) (min (X 0 13 0) (X 3 5 t))))) : ∀ (fu : Nat) (c : Nat), (min (X 0 13 0) (X 3 5 t)) - c < fu → (c ≤ (min (X 0 13 0) (X 3 5 t))) → Go 11 RX4 cX4_book 5 (some .int) 66 [some (.ref 69), some (.int (nI t)), some (.int (nI n)), some (.int (nI c)), some (.int (nI c))] [] (hp S N X1 (bkY Y t (X 3 6 t) (fun c => wrt (monN (X 0) n) c) c)) Q := by
  intro fu
  induction fu with
  | zero => intro c hfu; exact absurd hfu (Nat.not_lt_zero _)
  | succ fu ih =>
    intro c hfu hc
    have hco := hw.co
    have hlen := (hsh t ht).2
    have hb64 : X 3 6 t ≤ 64 := by have := (hsh t ht).1; unfold okB at this; omega
    have e1 : X1 0 = monN (X 0) n := g1.1
    have hw1 : WF (X1 0) := by rw [e1]; exact (wf_monN hw (n := n) hm).1
    have e0 : X1 0 13 0 = X 0 13 0 := by rw [e1, monN_130]
    have e5 : X1 3 5 t = X 3 5 t := by rw [g1.2.2.2 5 (by decide) (by decide)]; rfl
    have e6 : X1 3 6 t = X 3 6 t := by rw [g1.2.2.2 6 (by decide) (by decide)]; rfl
    refine go_iload4 (q := 68) dX4_book_66 rfl ?_
    refine go_aloadn0 (q := 69) dX4_book_68 rfl ?_
    refine go_xg (q := 72) dX4_book_69 fl_X4_28 rfl rfl ?_
    refine go_iloadn1 (q := 73) dX4_book_72 rfl ?_
    refine go_xzld (q := 74) dX4_book_73 ht rfl ?_
    rw [e5]
    refine go_icmp_geN (tgt := 125) (q := 77) dX4_book_74 (by decide) rfl (by omega) (by omega) (fun h1 => ?_) (fun h1 => ?_)
    · skip
      refine go_aloadn0 (q := 126) dX4_book_125 rfl ?_
      refine go_ix0 (q := 129) dX4_book_126 lk_X4_163 (by decide) (by decide) (Nat.le_of_ble_eq_true rfl) rfl (r_laysBack ?_)
      refine go_iloadn3 (q := 130) dX4_book_129 rfl ?_
      exact go_iretN dX4_book_130 rfl (show (min (X 0 13 0) (X 3 5 t)) = c by omega) (by have h := hO _ g1.lb; rw [show (min (X 0 13 0) (X 3 5 t)) = c by omega] at h ⊢; exact h)
    · skip
      refine go_iload4 (q := 79) dX4_book_77 rfl ?_
      refine go_aloadn0 (q := 80) dX4_book_79 rfl ?_
      refine go_xg (q := 83) dX4_book_80 fl_X4_7 rfl rfl ?_
      refine go_iconstN (n := 0) (q := 84) dX4_book_83 rfl ?_
      refine go_rld (q := 85) dX4_book_84 (rr_13 (f := 0) (by decide)) rfl ?_
      rw [e0]
      refine go_icmp_geN (tgt := 125) (q := 88) dX4_book_85 (by decide) rfl (by omega) (by omega) (fun h2 => ?_) (fun h2 => ?_)
      · skip
        refine go_aloadn0 (q := 126) dX4_book_125 rfl ?_
        refine go_ix0 (q := 129) dX4_book_126 lk_X4_163 (by decide) (by decide) (Nat.le_of_ble_eq_true rfl) rfl (r_laysBack ?_)
        refine go_iloadn3 (q := 130) dX4_book_129 rfl ?_
        exact go_iretN dX4_book_130 rfl (show (min (X 0 13 0) (X 3 5 t)) = c by omega) (by have h := hO _ g1.lb; rw [show (min (X 0 13 0) (X 3 5 t)) = c by omega] at h ⊢; exact h)
      · skip
        refine go_aloadn0 (q := 89) dX4_book_88 rfl ?_
        refine go_xg (q := 92) dX4_book_89 fl_X4_31 rfl rfl ?_
        refine go_bipushN (v := 40) (q := 94) dX4_book_92 (by decide) rfl ?_
        refine go_iloadn1 (q := 95) dX4_book_94 rfl ?_
        refine go_imulN (q := 96) dX4_book_95 rfl ?_
        refine go_iload4 (q := 98) dX4_book_96 rfl ?_
        refine go_iaddN (q := 99) dX4_book_98 rfl ?_
        refine go_aloadn0 (q := 100) dX4_book_99 rfl ?_
        refine go_xg (q := 103) dX4_book_100 fl_X4_25 rfl rfl ?_
        refine go_iloadn1 (q := 104) dX4_book_103 rfl ?_
        refine go_xbld (q := 105) dX4_book_104 ht rfl ?_
        refine go_st (st' := [.int (nI (X 3 6 t)), .int (nI (40 * t + c)), .ref 77]) (by rw [e6, show bitI (X 3 6 t) = nI (X 3 6 t) from if_neg h6]) ?_
        refine go_aloadn0 (q := 106) dX4_book_105 rfl ?_
        refine go_iload4 (q := 108) dX4_book_106 rfl ?_
        refine go_ix1 (q := 111) dX4_book_108 lk_X4_92 (by decide) (by decide) (Nat.le_of_ble_eq_true rfl) rfl (r_worth hw1 (by omega) ?_)
        rw [e1]
        refine go_i2l (q := 112) dX4_book_111 rfl ?_
        refine go_is2_ (q := 115) dX4_book_112 lk_X4_257 (by decide) (by decide) (Nat.le_of_ble_eq_true rfl) rfl (r_narrow hb64 ?_)
        refine go_xlst (q := 116) dX4_book_115 (show 40 * t + c < 160 by omega) rfl ?_
        rw [bkY_s]
        refine go_iincN3 (n := 1) (q := 119) dX4_book_116 rfl (by decide) rfl ?_
        refine go_iincN4 (n := 1) (q := 122) dX4_book_119 rfl (by decide) rfl ?_
        refine go_goto (tgt := 66) dX4_book_122 (by decide) ?_
        exact ih (c + 1) (by omega) (by omega)

set_option maxHeartbeats 4000000 in
set_option maxRecDepth 100000 in
theorem r_book_O {S : St} {N : Nat → Nat → Int64} {X : St} {Y : Nat → Int64} {Q : Option Value → AH → Prop} {t : Nat} {z : Int32} (hw : WF (X 0)) (hl : WL (X 0)) (hsh : ∀ t, t < 4 → okB (X 3 6 t) ∧ X 3 5 t ≤ 40) (ht : t < 4) (h : ¬ X 3 6 t = 0) (hI : ¬ rg z 0 120 → ∀ X', Xf X X' 0 → Q (some (.int (-1000000001))) (hp S N X' Y)) (hS : ∀ n, n ≤ 120 → z = nI n → 9999 < X 0 13 2 + n → ∀ X', Xf X X' 4 → Q (some (.int (-1000000005))) (hp S N X' Y)) (hO : ∀ n, n ≤ 120 → z = nI n → ¬ 9999 < X 0 13 2 + n → ∀ X', Xp X X' (X 0) → Q (some (.int (nI (min (X 0 13 0) (X 3 5 t))))) (hp S N X' (bkY Y t (X 3 6 t) (fun c => wrt (monN (X 0) n) c) (min (X 0 13 0) (X 3 5 t))))) : Go 11 RX4 cX4_book 5 (some .int) 0 [some (.ref 69), some (.int (nI t)), some (.int z), none, none] [] (hp S N X Y) Q := by
  refine go_aloadn0 (q := 1) dX4_book_0 rfl ?_
  refine go_iloadn1 (q := 2) dX4_book_1 rfl ?_
  refine go_ix1 (q := 5) dX4_book_2 lk_X4_261 (by decide) (by decide) (Nat.le_of_ble_eq_true rfl) rfl (r_wantsO hsh ht h ?_)
  refine go_if_eqN (tgt := 18) (q := 8) dX4_book_5 (by decide) rfl (by omega) (fun h1 => ?_) (fun h1 => ?_)
  · skip
    refine go_iloadn2 (q := 19) dX4_book_18 rfl ?_
    refine go_i2l (q := 20) dX4_book_19 rfl ?_
    refine go_lconst (q := 21) dX4_book_20 rfl ?_
    refine go_ldc2 (q := 24) dX4_book_21 ko_X4_137 rfl ?_
    refine go_is3_ (q := 27) dX4_book_24 lk_X4_49 (by decide) (by decide) (Nat.le_of_ble_eq_true rfl) rfl (r_isIn (l := 0) (m := 120) (by decide) (by decide) ?_)
    refine go_ifneB (tgt := 37) (q := 30) dX4_book_27 (by decide) rfl (fun h2 => ?_) (fun h2 => ?_)
    · skip
      obtain ⟨n, hn, rfl, -, -⟩ := rg_nat (n := 120) h2 (by omega) (by omega)
      refine go_aloadn0 (q := 38) dX4_book_37 rfl ?_
      refine go_iloadn2 (q := 39) dX4_book_38 rfl ?_
      refine go_ix1 (q := 42) dX4_book_39 lk_X4_139 (by decide) (by decide) (Nat.le_of_ble_eq_true rfl) rfl (r_isFar hw (by omega) ?_)
      refine go_ifeqB (tgt := 52) (q := 45) dX4_book_42 (by decide) rfl (fun h3 => ?_) (fun h3 => ?_)
      · skip
        refine go_aloadn0 (q := 53) dX4_book_52 rfl ?_
        refine go_ix0 (q := 56) dX4_book_53 lk_X4_160 (by decide) (by decide) (Nat.le_of_ble_eq_true rfl) rfl (r_laysBy ?_)
        refine go_aloadn0 (q := 57) dX4_book_56 rfl ?_
        refine go_iloadn2 (q := 58) dX4_book_57 rfl ?_
        refine go_ix1 (q := 61) dX4_book_58 lk_X4_152 (by decide) (by decide) (Nat.le_of_ble_eq_true rfl) rfl (r_goesOnMany (X := uk X 2 (X 0)) hw hl (by omega) (by show X 0 13 2 + n ≤ 10000; omega) (fun X1 g1 => ?_))
        refine go_iconstN (n := 0) (q := 62) dX4_book_61 rfl ?_
        refine go_istoren3 (q := 63) dX4_book_62 rfl (by decide) rfl ?_
        refine go_iconstN (n := 0) (q := 64) dX4_book_63 rfl ?_
        refine go_istore4 (q := 66) dX4_book_64 rfl (by decide) rfl ?_
        have h := r_book_66 hw hsh ht h (by omega) g1 (hO n hn rfl h3) ((min (X 0 13 0) (X 3 5 t)) + 1) 0 (by omega) (by omega)
        rw [bkY_0] at h
        exact h
      · skip
        refine go_aloadn0 (q := 46) dX4_book_45 rfl ?_
        refine go_ldc (q := 48) dX4_book_46 ko_X4_119 rfl ?_
        refine go_ix1 (q := 51) dX4_book_48 lk_X4_57 (by decide) (by decide) (Nat.le_of_ble_eq_true rfl) rfl (r_finds (p := 4) (by decide) (by decide) ?_)
        exact go_iret dX4_book_51 rfl (hS n hn rfl h3 _ (Xf.rf 4))
    · skip
      refine go_aloadn0 (q := 31) dX4_book_30 rfl ?_
      refine go_ldc (q := 33) dX4_book_31 ko_X4_42 rfl ?_
      refine go_ix1 (q := 36) dX4_book_33 lk_X4_57 (by decide) (by decide) (Nat.le_of_ble_eq_true rfl) rfl (r_finds (p := 0) (by decide) (by decide) ?_)
      exact go_iret dX4_book_36 rfl (hI h2 _ (Xf.rf 0))
  · skip
    exact absurd rfl h1

set_option maxHeartbeats 4000000 in
set_option maxRecDepth 100000 in
theorem r_book {S : St} {N : Nat → Nat → Int64} {X : St} {Y : Nat → Int64} {Q : Option Value → AH → Prop} {x z : Int32} (hw : WF (X 0)) (hl : WL (X 0)) (hsh : ∀ t, t < 4 → okB (X 3 6 t) ∧ X 3 5 t ≤ 40) (hB : ¬ rg x 0 3 → ∀ X', Xf X X' 0 → Q (some (.int (-1000000001))) (hp S N X' Y)) (hM : ∀ t, t < 4 → x = nI t → X 3 6 t = 0 → ∀ X', Xf X X' 5 → Q (some (.int (-1000000006))) (hp S N X' Y)) (hI : ∀ t, t < 4 → x = nI t → X 3 6 t ≠ 0 → ¬ rg z 0 120 → ∀ X', Xf X X' 0 → Q (some (.int (-1000000001))) (hp S N X' Y)) (hS : ∀ t n, t < 4 → x = nI t → X 3 6 t ≠ 0 → n ≤ 120 → z = nI n → 9999 < X 0 13 2 + n → ∀ X', Xf X X' 4 → Q (some (.int (-1000000005))) (hp S N X' Y)) (hO : ∀ t n, t < 4 → x = nI t → X 3 6 t ≠ 0 → n ≤ 120 → z = nI n → ¬ 9999 < X 0 13 2 + n → ∀ X', Xp X X' (X 0) → Q (some (.int (nI (min (X 0 13 0) (X 3 5 t))))) (hp S N X' (bkY Y t (X 3 6 t) (fun c => wrt (monN (X 0) n) c) (min (X 0 13 0) (X 3 5 t))))) : Cn 11 yX4_book cX4_book 5 (some .int) [.ref 69, .int x, .int z] (hp S N X Y) Q := by
  refine cn_of (own := RX4) (lo := [some (.ref 69), some (.int x), some (.int z), none, none]) 2 rfl (by decide +kernel) rfl (Nat.le_of_ble_eq_true rfl) ?_
  rcases wn_cs (X := X) x with h | ⟨t, ht, rfl, h⟩ | ⟨t, ht, rfl, h⟩
  · exact r_book_B hsh h (hB h)
  · exact r_book_M hsh ht h (hM t ht rfl h)
  · exact r_book_O hw hl hsh ht h (hI t ht rfl h) (fun n => hS t n ht rfl h) (fun n => hO t n ht rfl h)
