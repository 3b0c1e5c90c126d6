def fdR (r : Nat → Nat) (L : Nat) (x : Int32) (n m : Nat) : Nat → Nat := fun c => if L ≤ c ∧ c < L + m then ub x (n - 1 - (c - L)) else r c
theorem fdR_0 (r : Nat → Nat) (L : Nat) (x : Int32) (n : Nat) : fdR r L x n 0 = r := by
  funext c
  unfold fdR
  rw [if_neg (by omega)]
theorem upf_id (r : Nat → Nat) (i : Nat) : upf r i (r i) = r := by
  funext c
  unfold upf
  by_cases h : c = i
  · rw [if_pos h, h]
  · rw [if_neg h]
theorem fd_st {X X1 : St} {x : Int32} {n k : Nat} (hk : k < n) (g : X1 0 = X 0 ∧ X1 1 = X 1 ∧ X1 3 1 = fdR (X 3 1) (X 3 4 1) x n (n - (k + 1)) ∧ X1 3 4 = upf (X 3 4) 1 (X 3 4 1 + (n - (k + 1))) ∧ ∀ j, j ≠ 1 → j ≠ 4 → X1 3 j = X 3 j) :
    (u3 (u3 X1 3 1 (X 3 4 1 + (n - (k + 1))) (ub x k)) 3 4 1 (X 3 4 1 + (n - (k + 1)) + 1) 0 = X 0 ∧ u3 (u3 X1 3 1 (X 3 4 1 + (n - (k + 1))) (ub x k)) 3 4 1 (X 3 4 1 + (n - (k + 1)) + 1) 1 = X 1 ∧ u3 (u3 X1 3 1 (X 3 4 1 + (n - (k + 1))) (ub x k)) 3 4 1 (X 3 4 1 + (n - (k + 1)) + 1) 3 1 = fdR (X 3 1) (X 3 4 1) x n (n - k) ∧ u3 (u3 X1 3 1 (X 3 4 1 + (n - (k + 1))) (ub x k)) 3 4 1 (X 3 4 1 + (n - (k + 1)) + 1) 3 4 = upf (X 3 4) 1 (X 3 4 1 + (n - k)) ∧ ∀ j, j ≠ 1 → j ≠ 4 → u3 (u3 X1 3 1 (X 3 4 1 + (n - (k + 1))) (ub x k)) 3 4 1 (X 3 4 1 + (n - (k + 1)) + 1) 3 j = X 3 j) := by
  obtain ⟨g0, g1, g2, g3, g4⟩ := g
  refine ⟨by rw [u3_oth _ (by decide), u3_oth _ (by decide), g0], by rw [u3_oth _ (by decide), u3_oth _ (by decide), g1], ?_, ?_, fun j h1 h4 => by rw [u3_othj _ h4, u3_othj _ h1, g4 j h1 h4]⟩
  · rw [u3_othj _ (by decide)]
    funext c
    by_cases e : c = X 3 4 1 + (n - (k + 1))
    · rw [e, u3_s]
      unfold fdR
      rw [if_pos (by omega), show n - 1 - (X 3 4 1 + (n - (k + 1)) - X 3 4 1) = k by omega]
    · rw [u3_ni _ e, g2]
      unfold fdR
      by_cases h : X 3 4 1 ≤ c ∧ c < X 3 4 1 + (n - (k + 1))
      · rw [if_pos h, if_pos (by omega)]
      · rw [if_neg h, if_neg (by omega)]
  · funext c
    by_cases e : c = 1
    · rw [e, u3_s]
      unfold upf
      rw [if_pos rfl]
      omega
    · rw [u3_ni _ e, u3_othj _ (by decide), g3]
      unfold upf
      rw [if_neg e, if_neg e]

set_option maxHeartbeats 4000000 in
set_option maxRecDepth 100000 in
theorem r_feed_41 {S : St} {N : Nat → Nat → Int64} {X : St} {Y : Nat → Int64} {Q : Option Value → AH → Prop} {x : Int32} {n : Nat} (hn : n ≤ 4) (hT : (X 3 4 1) + n ≤ 120) (hO : ∀ X', (X' 0 = X 0 ∧ X' 1 = X 1 ∧ X' 3 1 = (fdR (X 3 1) (X 3 4 1) x n n) ∧ X' 3 4 = upf (X 3 4) 1 ((X 3 4 1) + n) ∧ ∀ j, j ≠ 1 → j ≠ 4 → X' 3 j = X 3 j) → Q (some (.int (nI ((X 3 4 1) + n)))) (hp S N X' Y)) : ∀ (fu : Nat) (k : Nat) (X1 : St), k < fu → (k ≤ n) → ((X1 0 = X 0 ∧ X1 1 = X 1 ∧ X1 3 1 = (fdR (X 3 1) (X 3 4 1) x n (n - k)) ∧ X1 3 4 = upf (X 3 4) 1 ((X 3 4 1) + (n - k)) ∧ ∀ j, j ≠ 1 → j ≠ 4 → X1 3 j = X 3 j)) → Go 2 RX4 cX4_feed 4 (some .int) 41 [some (.ref 69), some (.int x), some (.int (nI n)), some (.int (nI k - nI 1))] [] (hp S N X1 Y) Q := by
  intro fu
  induction fu with
  | zero => intro k X1 hfu; exact absurd hfu (Nat.not_lt_zero _)
  | succ fu ih =>
    intro k X1 hfu hk g
    have e4 : X1 3 4 1 = (X 3 4 1) + (n - k) := by rw [g.2.2.2.1]; exact if_pos rfl
    refine go_iloadn3 (q := 42) dX4_feed_41 rfl ?_
    refine go_if_lt (tgt := 80) (q := 45) dX4_feed_42 (by decide) rfl (fun h1 => ?_) (fun h1 => ?_)
    · skip
      obtain rfl : k = 0 := pm1_lt (by omega) h1
      refine go_aloadn0 (q := 81) dX4_feed_80 rfl ?_
      refine go_xg (q := 84) dX4_feed_81 fl_X4_190 rfl rfl ?_
      rw [e4]
      exact go_iret dX4_feed_84 rfl (hO _ g)
    · skip
      obtain ⟨k, rfl⟩ : ∃ q, k = q + 1 := ⟨k - 1, by have := pm1_ge (by omega) h1; omega⟩
      rw [show nI (k + 1) - nI 1 = nI k from pm1_s k]
      refine go_aloadn0 (q := 46) dX4_feed_45 rfl ?_
      refine go_xg (q := 49) dX4_feed_46 fl_X4_22 rfl rfl ?_
      refine go_aloadn0 (q := 50) dX4_feed_49 rfl ?_
      refine go_xg (q := 53) dX4_feed_50 fl_X4_190 rfl rfl ?_
      rw [e4]
      refine go_iloadn1 (q := 54) dX4_feed_53 rfl ?_
      refine go_bipushN (v := 8) (q := 56) dX4_feed_54 (by decide) rfl ?_
      refine go_iloadn3 (q := 57) dX4_feed_56 rfl ?_
      refine go_imulN (q := 58) dX4_feed_57 rfl ?_
      refine go_ishr (q := 59) dX4_feed_58 rfl ?_
      refine go_sipushN (v := 255) (q := 62) dX4_feed_59 (by decide) rfl ?_
      refine go_iand (q := 63) dX4_feed_62 rfl ?_
      refine go_st (st' := [.int (nI (ub x k)), .int (nI ((X 3 4 1) + (n - (k + 1)))), .ref 74]) (by rw [m_byteS x (by omega)]) ?_
      refine go_xtst (q := 64) dX4_feed_63 (by omega) rfl ?_
      refine go_aloadn0 (q := 65) dX4_feed_64 rfl ?_
      refine go_dup (q := 66) dX4_feed_65 rfl rfl ?_
      refine go_xg (q := 69) dX4_feed_66 fl_X4_190 rfl rfl ?_
      refine go_st (st' := [.int (nI ((X 3 4 1) + (n - (k + 1)))), .ref 69]) (by rw [← e4]; rfl) ?_
      refine go_iconstN (n := 1) (q := 70) dX4_feed_69 rfl ?_
      refine go_iaddN (q := 71) dX4_feed_70 rfl ?_
      refine go_xpf (f := 1) (q := 74) dX4_feed_71 fp_X4_190 (by omega) rfl ?_
      refine go_iinc3 (q := 77) dX4_feed_74 rfl (by decide) rfl ?_
      refine go_goto (tgt := 41) dX4_feed_77 (by decide) ?_
      rw [show nI k + Int32.ofInt (-1) = nI k - nI 1 from nI_m1 _]
      exact ih k _ (by omega) (by omega) (fd_st (by omega) g)

set_option maxHeartbeats 4000000 in
set_option maxRecDepth 100000 in
theorem r_feed {S : St} {N : Nat → Nat → Int64} {X : St} {Y : Nat → Int64} {Q : Option Value → AH → Prop} {x z : Int32} (hl0 : (X 3 4 1) ≤ 120) (hB : ¬ rg z 1 4 → ∀ X', Xf X X' 0 → Q (some (.int (-1000000001))) (hp S N X' Y)) (hF : ∀ n, 1 ≤ n → n ≤ 4 → z = nI n → 120 < (X 3 4 1) + n → ∀ X', Xf X X' 1 → Q (some (.int (-1000000002))) (hp S N X' Y)) (hO : ∀ n, 1 ≤ n → n ≤ 4 → z = nI n → ¬ 120 < (X 3 4 1) + n → ∀ X', (X' 0 = X 0 ∧ X' 1 = X 1 ∧ X' 3 1 = (fdR (X 3 1) (X 3 4 1) x n n) ∧ X' 3 4 = upf (X 3 4) 1 ((X 3 4 1) + n) ∧ ∀ j, j ≠ 1 → j ≠ 4 → X' 3 j = X 3 j) → Q (some (.int (nI ((X 3 4 1) + n)))) (hp S N X' Y)) : Cn 2 yX4_feed cX4_feed 4 (some .int) [.ref 69, .int x, .int z] (hp S N X Y) Q := by
  refine cn_of (own := RX4) (lo := [some (.ref 69), some (.int x), some (.int z), none]) 1 rfl (by decide +kernel) rfl (Nat.le_of_ble_eq_true rfl) ?_
  refine go_iloadn2 (q := 1) dX4_feed_0 rfl ?_
  refine go_i2l (q := 2) dX4_feed_1 rfl ?_
  refine go_lconst (q := 3) dX4_feed_2 rfl ?_
  refine go_ldc2 (q := 6) dX4_feed_3 ko_X4_82 rfl ?_
  refine go_is3_ (q := 9) dX4_feed_6 lk_X4_49 (by decide) (by decide) (Nat.le_of_ble_eq_true rfl) rfl (r_isIn (l := 1) (m := 4) (by decide) (by decide) ?_)
  refine go_ifneB (tgt := 19) (q := 12) dX4_feed_9 (by decide) rfl (fun h1 => ?_) (fun h1 => ?_)
  · skip
    obtain ⟨n, hn, rfl, hn1, -⟩ := rg_nat (n := 4) h1 (by omega) (by omega)
    refine go_aloadn0 (q := 20) dX4_feed_19 rfl ?_
    refine go_xg (q := 23) dX4_feed_20 fl_X4_190 rfl rfl ?_
    refine go_iloadn2 (q := 24) dX4_feed_23 rfl ?_
    refine go_iaddN (q := 25) dX4_feed_24 rfl ?_
    refine go_bipushN (v := 120) (q := 27) dX4_feed_25 (by decide) rfl ?_
    refine go_icmp_leN (tgt := 37) (q := 30) dX4_feed_27 (by decide) rfl (by omega) (by omega) (fun h2 => ?_) (fun h2 => ?_)
    · skip
      refine go_iloadn2 (q := 38) dX4_feed_37 rfl ?_
      refine go_iconstN (n := 1) (q := 39) dX4_feed_38 rfl ?_
      refine go_isub (q := 40) dX4_feed_39 rfl ?_
      refine go_istoren3 (q := 41) dX4_feed_40 rfl (by decide) rfl ?_
      refine r_feed_41 hn h2 (hO n (by omega) hn rfl (by omega)) (n + 1) n X (by omega) (by omega) ⟨rfl, rfl, ?_, ?_, fun _ _ _ => rfl⟩
      · rw [Nat.sub_self, fdR_0]
      · rw [Nat.sub_self, Nat.add_zero, upf_id]
    · skip
      refine go_aloadn0 (q := 31) dX4_feed_30 rfl ?_
      refine go_ldc (q := 33) dX4_feed_31 ko_X4_71 rfl ?_
      refine go_ix1 (q := 36) dX4_feed_33 lk_X4_57 (by decide) (by decide) (Nat.le_of_ble_eq_true rfl) rfl (r_finds (p := 1) (by decide) (by decide) ?_)
      exact go_iret dX4_feed_36 rfl (hF n (by omega) hn rfl (by omega) _ (Xf.rf 1))
  · skip
    refine go_aloadn0 (q := 13) dX4_feed_12 rfl ?_
    refine go_ldc (q := 15) dX4_feed_13 ko_X4_42 rfl ?_
    refine go_ix1 (q := 18) dX4_feed_15 lk_X4_57 (by decide) (by decide) (Nat.le_of_ble_eq_true rfl) rfl (r_finds (p := 0) (by decide) (by decide) ?_)
    exact go_iret dX4_feed_18 rfl (hB h1 _ (Xf.rf 0))
