theorem tkn_s (T : Mk) : tkn T 1 2 = sk (T 0) (T 1 0) 0 (T 1 3) := rfl
theorem tkn_e (T : Mk) : tkn T 1 3 = en (T 0) (T 1 0) (tkn T 1 2) := rfl
theorem tkn_k (T : Mk) : tkn T 1 1 = kd (T 0) (T 1 0) (tkn T 1 2) := rfl
theorem tkn_adv {T : Mk} (h : tpG T) : T 1 3 ≤ tkn T 1 3 := by
  have h1 := sk_le (B := T 0) (L := T 1 0) (k := 0) h.2.2.1
  have h2 := (tkn_G h.1 h.2.2.1).2.1
  rw [tkn_s] at h2
  omega
theorem tkn_adv3 {T : Mk} (h : tpG T) (h3 : tkn T 1 1 = 3) : T 1 3 + 1 ≤ tkn T 1 3 := by
  have h1 := sk_le (B := T 0) (L := T 1 0) (k := 0) h.2.2.1
  rw [← tkn_s] at h1
  have h2 := nt_k (B := T 0) h1.2
  rw [tkn_k] at h3
  have h4 := (h2.2.2.1 (by omega) (by omega)).1
  rw [if_pos (by omega), ← tkn_e] at h4
  omega
theorem tkn_1 {T : Mk} (h : tpB T) (he : T 1 3 ≤ T 1 0) : 1 ≤ T 1 0 → 1 ≤ tkn T 1 3 := by
  intro h0
  have h1 := sk_le (B := T 0) (L := T 1 0) (k := 0) he
  rw [← tkn_s] at h1
  rw [tkn_e]
  unfold en
  split
  · omega
  · split
    · have := sk_le (B := T 0) (L := T 1 0) (k := 1) (e := tkn T 1 2 + 1) (by omega); omega
    · split
      · have := sk_le (B := T 0) (L := T 1 0) (k := 2) (e := tkn T 1 2 + 1) (by omega); omega
      · omega
def Ad (T T' : Mk) : Prop := tpG T' ∧ T 1 3 ≤ T' 1 3
def Ae (T T' : Mk) : Prop := tpG T' ∧ T 1 3 ≤ T' 1 3 ∧ (T' 1 1 = 3 → T 1 3 + 1 ≤ T' 1 3)
theorem Ad.rf {T : Mk} (h : tpG T) : Ad T T := ⟨h, Nat.le_refl _⟩
theorem Ad.s {T T' : Mk} (h : Ad T T') : Ad T (tkn T') := ⟨tkn_G h.1.1 h.1.2.2.1, Nat.le_trans h.2 (tkn_adv h.1)⟩
theorem Ad.e {T T' : Mk} (h : Ad T T') (h3 : tkn T' 1 1 = 3) : T 1 3 + 1 ≤ tkn T' 1 3 := by
  have := tkn_adv3 h.1 h3
  have := h.2
  omega
theorem pcoin_adv {T M T' M' : Mk} {k : Nat} {b : Bool} (h : tpG T) (e : pcoin T M k = (b, T', M')) (h3 : T' 1 1 = 3) : T 1 3 + 1 ≤ T' 1 3 := by
  have k0 := Ad.rf h
  unfold pcoin at e
  repeat' split at e
  all_goals
    cases e
    first
      | exact k0.e h3
      | exact k0.s.e h3
      | exact k0.s.s.e h3
      | exact k0.s.s.s.e h3
      | exact k0.s.s.s.s.e h3
      | exact k0.s.s.s.s.s.e h3
theorem ptwo_adv {T M T' M' : Mk} {j m x : Nat} {b : Bool} (h : tpG T) (e : ptwo T M j m x = (b, T', M')) (h3 : T' 1 1 = 3) : T 1 3 + 1 ≤ T' 1 3 := by
  have k0 := Ad.rf h
  unfold ptwo at e
  repeat' split at e
  all_goals
    cases e
    first
      | exact k0.e h3
      | exact k0.s.e h3
      | exact k0.s.s.e h3
theorem ploan_adv {T M T' M' : Mk} {b : Bool} (h : tpG T) (e : ploan T M = (b, T', M')) (h3 : T' 1 1 = 3) : T 1 3 + 1 ≤ T' 1 3 := by
  have k0 := Ad.rf h
  unfold ploan at e
  repeat' split at e
  all_goals
    cases e
    first
      | exact k0.e h3
      | exact k0.s.e h3
      | exact k0.s.s.e h3
      | exact k0.s.s.s.e h3
      | exact k0.s.s.s.s.e h3
      | exact k0.s.s.s.s.s.e h3
      | exact k0.s.s.s.s.s.s.e h3
theorem pitem_adv {T M T' M' : Mk} (h : tpG T) (e : pitem T M = (true, T', M')) (h3 : T' 1 1 = 3) : T 1 3 + 1 ≤ T' 1 3 := by
  unfold pitem at e
  repeat' split at e
  · exact pcoin_adv h e h3
  · cases e
  · exact ptwo_adv h e h3
  · exact ptwo_adv h e h3
  · exact ploan_adv h e h3
  · cases e

set_option maxHeartbeats 4000000 in
set_option maxRecDepth 100000 in
theorem r_market_82a {S : St} {N : Nat → Nat → Int64} {X : St} {Y : Nat → Int64} {Q : Option Value → AH → Prop} {T T2 M2 : Mk} (hA : ∀ n M', n ≤ 120 → pitems 120 1 (tkn (u2 T 1 3 0)) (X 0) = (.inl n, M') → ∀ X', X' 0 = M' → X' 1 = X 1 → (∀ j, j ≠ 2 → j ≠ 3 → j ≠ 4 → X' 3 j = X 3 j) → X' 3 4 0 = X 3 4 0 → X' 3 4 1 = 0 → Q (some (.int (nI n))) (hp S N X' Y)) {X1 : St} {n g : Nat} (hn : n ≤ 120) (he : pitems 120 1 (tkn (u2 T 1 3 0)) (X 0) = (.inl n, M2)) (z : Tx (uk X 2 (X 0)) X1 T2 M2) : Go 6 RX4 cX4_market 3 (some .int) 82 [some (.ref 69), some (.int (nI n)), some (.int (nI g))] [] (hp S N X1 Y) Q := by
  refine go_iloadn1 (q := 83) dX4_market_82 rfl ?_
  refine go_if_geN (tgt := 90) (q := 86) dX4_market_83 (by decide) rfl (by omega) (fun q1 => ?_) (fun q1 => ?_)
  · skip
    refine go_aloadn0 (q := 91) dX4_market_90 rfl ?_
    refine go_iconstN (n := 0) (q := 92) dX4_market_91 rfl ?_
    refine go_xpf (f := 1) (q := 95) dX4_market_92 fp_X4_190 (by omega) rfl ?_
    refine go_iloadn1 (q := 96) dX4_market_95 rfl ?_
    exact go_iret dX4_market_96 rfl (hA n M2 hn he _ (by rw [u3_oth _ (by decide)]; exact z.2.1) (by rw [u3_oth _ (by decide)]; exact z.2.2.1.trans (uk_o _ _ (by decide))) (fun j a b c => by rw [u3_othj _ c]; exact (z.2.2.2.2.1 j a b c).trans (by rw [uk_o _ _ (by decide)])) (by rw [u3_ni _ (by decide)]; exact z.2.2.2.2.2.trans (by rw [uk_o _ _ (by decide)])) (u3_s _ _ _ _ _))
  · skip
    exact absurd trivial q1

set_option maxHeartbeats 4000000 in
set_option maxRecDepth 100000 in
theorem r_market_82b {S : St} {N : Nat → Nat → Int64} {X : St} {Y : Nat → Int64} {Q : Option Value → AH → Prop} {T T2 M2 M3 : Mk} (hB : ∀ s M', s ≤ 120 → pitems 120 1 (tkn (u2 T 1 3 0)) (X 0) = (.inr s, M') → ∀ X', X' 0 = X 0 → X' 1 = X 1 → (∀ j, j ≠ 2 → j ≠ 3 → j ≠ 4 → X' 3 j = X 3 j) → X' 3 4 0 = X 3 4 0 → X' 3 4 1 = 0 → Q (some (.int (-1 - nI s))) (hp S N X' Y)) {X1 : St} {s g : Nat} (hs : s ≤ 120) (he : pitems 120 1 (tkn (u2 T 1 3 0)) (X 0) = (.inr s, M3)) (z : Tx (uk X 2 (X 0)) X1 T2 M2) : Go 6 RX4 cX4_market 3 (some .int) 82 [some (.ref 69), some (.int (-1 - nI s)), some (.int (nI g))] [] (hp S N X1 Y) Q := by
  refine go_iloadn1 (q := 83) dX4_market_82 rfl ?_
  refine go_if_ge (tgt := 90) (q := 86) dX4_market_83 (by decide) rfl (fun q1 => ?_) (fun q1 => ?_)
  · skip
    exact absurd q1 (Int32.not_le.mpr (neg1 hs))
  · skip
    refine go_aloadn0 (q := 87) dX4_market_86 rfl ?_
    refine go_ix0 (q := 90) dX4_market_87 lk_X4_163 (by decide) (by decide) (Nat.le_of_ble_eq_true rfl) rfl (r_laysBack ?_)
    refine go_aloadn0 (q := 91) dX4_market_90 rfl ?_
    refine go_iconstN (n := 0) (q := 92) dX4_market_91 rfl ?_
    refine go_xpf (f := 1) (q := 95) dX4_market_92 fp_X4_190 (by omega) rfl ?_
    refine go_iloadn1 (q := 96) dX4_market_95 rfl ?_
    exact go_iret dX4_market_96 rfl (hB s M3 hs he _ (by rw [u3_oth _ (by decide), uk_s, z.2.2.2.1, uk_s]) (by rw [u3_oth _ (by decide), uk_o _ _ (by decide)]; exact z.2.2.1.trans (uk_o _ _ (by decide))) (fun j a b c => by rw [u3_othj _ c, uk_o _ _ (by decide)]; exact (z.2.2.2.2.1 j a b c).trans (by rw [uk_o _ _ (by decide)])) (by rw [u3_ni _ (by decide), uk_o _ _ (by decide)]; exact z.2.2.2.2.2.trans (by rw [uk_o _ _ (by decide)])) (u3_s _ _ _ _ _))

set_option maxHeartbeats 4000000 in
set_option maxRecDepth 100000 in
theorem r_market_21 {S : St} {N : Nat → Nat → Int64} {X : St} {Y : Nat → Int64} {Q : Option Value → AH → Prop} {T : Mk} (hL : T 1 0 ≤ 120) (hA : ∀ n M', n ≤ 120 → pitems 120 1 (tkn (u2 T 1 3 0)) (X 0) = (.inl n, M') → ∀ X', X' 0 = M' → X' 1 = X 1 → (∀ j, j ≠ 2 → j ≠ 3 → j ≠ 4 → X' 3 j = X 3 j) → X' 3 4 0 = X 3 4 0 → X' 3 4 1 = 0 → Q (some (.int (nI n))) (hp S N X' Y)) (hB : ∀ s M', s ≤ 120 → pitems 120 1 (tkn (u2 T 1 3 0)) (X 0) = (.inr s, M') → ∀ X', X' 0 = X 0 → X' 1 = X 1 → (∀ j, j ≠ 2 → j ≠ 3 → j ≠ 4 → X' 3 j = X 3 j) → X' 3 4 0 = X 3 4 0 → X' 3 4 1 = 0 → Q (some (.int (-1 - nI s))) (hp S N X' Y)) : ∀ (fu : Nat) (n f : Nat) (X1 : St) (T1 M : Mk), f < fu → (n + f = 120) → (Tx (uk X 2 (X 0)) X1 T1 M) → (tpG T1) → (M 13 0 ≤ 12 ∧ M 13 1 ≤ 8) → (T1 1 0 = T 1 0) → (T 1 0 < f + T1 1 3) → (pitems f (n + 1) T1 M = pitems 120 1 (tkn (u2 T 1 3 0)) (X 0)) → Go 6 RX4 cX4_market 3 (some .int) 21 [some (.ref 69), some (.int (nI n)), some (.int (nI 1))] [] (hp S N X1 Y) Q := by
  intro fu
  induction fu with
  | zero => intro n f X1 T1 M hfu; exact absurd hfu (Nat.not_lt_zero _)
  | succ fu ih =>
    intro n f X1 T1 M hfu hnf z hG hwc eL hm he
    obtain ⟨f, rfl⟩ : ∃ q, f = q + 1 := ⟨f - 1, by have := hG.2.2.1; omega⟩
    refine go_aloadn0 (q := 22) dX4_market_21 rfl ?_
    refine go_ix0 (q := 25) dX4_market_22 lk_X4_250 (by decide) (by decide) (Nat.le_of_ble_eq_true rfl) rfl (r_goesItem z.1 hG (by rw [z.2.1]; exact hwc) (fun b T2 M2 e2 X2 y2 => ?_))
    rw [z.2.1] at e2
    have zz := z.tr y2
    have kk := pitem_K hG e2
    have ww := pitem_n hwc e2
    unfold pitems at he
    rw [e2] at he
    simp only at he
    have k4 := kk.1.2.2.2.2
    have k2 := kk.1.2.1
    have k3 := kk.1.2.2.1
    have k5 := kk.2.2
    have rs := zz.1.2.2.2.1
    have rk := zz.1.2.2.1
    refine go_ifneB (tgt := 40) (q := 28) dX4_market_25 (by decide) rfl (fun hb => ?_) (fun hb => ?_)
    · skip
      subst hb
      rw [if_neg (by decide)] at he
      refine go_iincN1 (n := 1) (q := 43) dX4_market_40 rfl (by decide) rfl ?_
      refine go_aloadn0 (q := 44) dX4_market_43 rfl ?_
      refine go_xg (q := 47) dX4_market_44 fl_X4_209 rfl rfl ?_
      rw [rk]
      refine go_iconstN (n := 3) (q := 48) dX4_market_47 rfl ?_
      refine go_icmp_neN (tgt := 55) (q := 51) dX4_market_48 (by decide) rfl (by omega) (by omega) (fun h3 => ?_) (fun h3 => ?_)
      · skip
        refine go_iconstN (n := 0) (q := 56) dX4_market_55 rfl ?_
        refine go_istoren2 (q := 57) dX4_market_56 rfl (by decide) rfl ?_
        refine go_iloadn2 (q := 58) dX4_market_57 rfl ?_
        refine go_if_neN (tgt := 68) (q := 61) dX4_market_58 (by decide) rfl (by omega) (fun h4 => ?_) (fun h4 => ?_)
        · skip
          exact absurd rfl h4
        · skip
          refine go_aloadn0 (q := 62) dX4_market_61 rfl ?_
          refine go_xg (q := 65) dX4_market_62 fl_X4_209 rfl rfl ?_
          rw [rk]
          refine go_if_neN (tgt := 72) (q := 68) dX4_market_65 (by decide) rfl (by omega) (fun h5 => ?_) (fun h5 => ?_)
          · skip
            refine go_iconstV (v := -1) (q := 73) dX4_market_72 (by decide) rfl ?_
            refine go_aloadn0 (q := 74) dX4_market_73 rfl ?_
            refine go_xg (q := 77) dX4_market_74 fl_X4_197 rfl rfl ?_
            rw [rs]
            refine go_isub (q := 78) dX4_market_77 rfl ?_
            refine go_istoren1 (q := 79) dX4_market_78 rfl (by decide) rfl ?_
            refine go_goto (tgt := 13) dX4_market_79 (by decide) ?_
            refine go_iloadn2 (q := 14) dX4_market_13 rfl ?_
            refine go_if_eqN (tgt := 82) (q := 17) dX4_market_14 (by decide) rfl (by omega) (fun h6 => ?_) (fun h6 => ?_)
            · skip
              rw [if_neg h5, if_pos h3] at he
              exact r_market_82b hB (by omega) he.symm zz
            · skip
              exact absurd rfl h6
          · skip
            refine go_iloadn1 (q := 69) dX4_market_68 rfl ?_
            refine go_goto (tgt := 78) dX4_market_69 (by decide) ?_
            refine go_istoren1 (q := 79) dX4_market_78 rfl (by decide) rfl ?_
            refine go_goto (tgt := 13) dX4_market_79 (by decide) ?_
            refine go_iloadn2 (q := 14) dX4_market_13 rfl ?_
            refine go_if_eqN (tgt := 82) (q := 17) dX4_market_14 (by decide) rfl (by omega) (fun h6 => ?_) (fun h6 => ?_)
            · skip
              rw [if_pos h5] at he
              exact r_market_82a hA (by omega) he.symm zz
            · skip
              exact absurd rfl h6
      · skip
        refine go_iconstN (n := 1) (q := 52) dX4_market_51 rfl ?_
        refine go_goto (tgt := 56) dX4_market_52 (by decide) ?_
        refine go_istoren2 (q := 57) dX4_market_56 rfl (by decide) rfl ?_
        refine go_iloadn2 (q := 58) dX4_market_57 rfl ?_
        refine go_if_neN (tgt := 68) (q := 61) dX4_market_58 (by decide) rfl (by omega) (fun h4 => ?_) (fun h4 => ?_)
        · skip
          refine go_iloadn1 (q := 69) dX4_market_68 rfl ?_
          refine go_goto (tgt := 78) dX4_market_69 (by decide) ?_
          refine go_istoren1 (q := 79) dX4_market_78 rfl (by decide) rfl ?_
          refine go_goto (tgt := 13) dX4_market_79 (by decide) ?_
          refine go_iloadn2 (q := 14) dX4_market_13 rfl ?_
          refine go_if_eqN (tgt := 82) (q := 17) dX4_market_14 (by decide) rfl (by omega) (fun h6 => ?_) (fun h6 => ?_)
          · skip
            exact absurd h6 (by decide)
          · skip
            refine go_aloadn0 (q := 18) dX4_market_17 rfl ?_
            refine go_ix0 (q := 21) dX4_market_18 lk_X4_225 (by decide) (by decide) (Nat.le_of_ble_eq_true rfl) rfl (r_nextToken kk.1.1 zz.1.1 zz.1.2.1 zz.1.2.2.2.2.1 k3 (fun X3 y3 => ?_))
            have z3 := zz.tm y3
            rw [if_neg (by omega), if_neg (Decidable.not_not.mpr h3)] at he
            exact ih (n + 1) f X3 (tkn T2) M2 (by omega) (by omega) z3 kk.s.1 ww (kk.s.2.2.trans eL) (by have a1 := pitem_adv hG e2 h3; have a2 := tkn_adv kk.1; omega) he
        · skip
          exact absurd h4 (by decide)
    · skip
      obtain rfl : b = false := by cases b <;> simp_all
      rw [if_pos rfl] at he
      refine go_iconstV (v := -1) (q := 29) dX4_market_28 (by decide) rfl ?_
      refine go_aloadn0 (q := 30) dX4_market_29 rfl ?_
      refine go_xg (q := 33) dX4_market_30 fl_X4_197 rfl rfl ?_
      rw [rs]
      refine go_isub (q := 34) dX4_market_33 rfl ?_
      refine go_istoren1 (q := 35) dX4_market_34 rfl (by decide) rfl ?_
      refine go_iconstN (n := 0) (q := 36) dX4_market_35 rfl ?_
      refine go_istoren2 (q := 37) dX4_market_36 rfl (by decide) rfl ?_
      refine go_goto (tgt := 13) dX4_market_37 (by decide) ?_
      refine go_iloadn2 (q := 14) dX4_market_13 rfl ?_
      refine go_if_eqN (tgt := 82) (q := 17) dX4_market_14 (by decide) rfl (by omega) (fun h6 => ?_) (fun h6 => ?_)
      · skip
        exact r_market_82b hB (by omega) he.symm zz
      · skip
        exact absurd rfl h6

set_option maxHeartbeats 4000000 in
set_option maxRecDepth 100000 in
theorem r_market {S : St} {N : Nat → Nat → Int64} {X : St} {Y : Nat → Int64} {Q : Option Value → AH → Prop} {T : Mk} (hT : tpB T) (h0 : X 3 1 = T 0) (hL : X 3 4 1 = T 1 0) (hwc : X 0 13 0 ≤ 12 ∧ X 0 13 1 ≤ 8) (hA : ∀ n M', n ≤ 120 → pitems 120 1 (tkn (u2 T 1 3 0)) (X 0) = (.inl n, M') → ∀ X', X' 0 = M' → X' 1 = X 1 → (∀ j, j ≠ 2 → j ≠ 3 → j ≠ 4 → X' 3 j = X 3 j) → X' 3 4 0 = X 3 4 0 → X' 3 4 1 = 0 → Q (some (.int (nI n))) (hp S N X' Y)) (hB : ∀ s M', s ≤ 120 → pitems 120 1 (tkn (u2 T 1 3 0)) (X 0) = (.inr s, M') → ∀ X', X' 0 = X 0 → X' 1 = X 1 → (∀ j, j ≠ 2 → j ≠ 3 → j ≠ 4 → X' 3 j = X 3 j) → X' 3 4 0 = X 3 4 0 → X' 3 4 1 = 0 → Q (some (.int (-1 - nI s))) (hp S N X' Y)) : Cn 6 yX4_market cX4_market 3 (some .int) [.ref 69] (hp S N X Y) Q := by
  refine cn_of (own := RX4) (lo := [some (.ref 69), none, none]) 2 rfl (by decide +kernel) rfl (Nat.le_of_ble_eq_true rfl) ?_
  refine go_aloadn0 (q := 1) dX4_market_0 rfl ?_
  refine go_ix0 (q := 4) dX4_market_1 lk_X4_160 (by decide) (by decide) (Nat.le_of_ble_eq_true rfl) rfl (r_laysBy ?_)
  refine go_aloadn0 (q := 5) dX4_market_4 rfl ?_
  refine go_iconstN (n := 0) (q := 6) dX4_market_5 rfl ?_
  refine go_xpf (f := 4) (q := 9) dX4_market_6 fp_X4_194 (by omega) rfl ?_
  have e1 : u3 (uk X 2 (X 0)) 3 4 4 0 3 1 = (u2 T 1 3 0) 0 := by rw [u3_othj _ (by decide), uk_o _ _ (by decide), h0]; exact (u2_row _ (by decide) _ _).symm
  have e2 : u3 (uk X 2 (X 0)) 3 4 4 0 3 4 1 = (u2 T 1 3 0) 1 0 := by rw [u3_ni _ (by decide), uk_o _ _ (by decide), hL]; rfl
  have hT2 : tpB (u2 T 1 3 0) := hT
  refine go_iconstN (n := 0) (q := 10) dX4_market_9 rfl ?_
  refine go_istoren1 (q := 11) dX4_market_10 rfl (by decide) rfl ?_
  refine go_iconstN (n := 1) (q := 12) dX4_market_11 rfl ?_
  refine go_istoren2 (q := 13) dX4_market_12 rfl (by decide) rfl ?_
  refine go_iloadn2 (q := 14) dX4_market_13 rfl ?_
  refine go_if_eqN (tgt := 82) (q := 17) dX4_market_14 (by decide) rfl (by omega) (fun q1 => ?_) (fun q1 => ?_)
  · skip
    exact absurd q1 (by decide)
  · skip
    refine go_aloadn0 (q := 18) dX4_market_17 rfl ?_
    refine go_ix0 (q := 21) dX4_market_18 lk_X4_225 (by decide) (by decide) (Nat.le_of_ble_eq_true rfl) rfl (r_nextToken (T := u2 T 1 3 0) hT2 e1 e2 (u3_s _ _ _ _ _) (Nat.zero_le _) (fun X1 y1 => ?_))
    have z1 : Tx (uk X 2 (X 0)) X1 (tkn (u2 T 1 3 0)) (X 0) := ⟨y1.1, y1.2.1.trans (by rw [u3_oth _ (by decide), uk_o _ _ (by decide)]), y1.2.2.1.trans (by rw [u3_oth _ (by decide)]), y1.2.2.2.1.trans (by rw [u3_oth _ (by decide)]), fun j a b c => (y1.2.2.2.2.1 j a b c).trans (by rw [u3_othj _ c]), y1.2.2.2.2.2.trans (by rw [u3_ni _ (by decide)])⟩
    exact r_market_21 hT.1 hA hB 121 0 120 X1 _ (X 0) (by omega) rfl z1 (tkn_G hT2 (Nat.zero_le _)) hwc rfl (by have := tkn_1 (T := u2 T 1 3 0) hT2 (Nat.zero_le _); have e : (u2 T 1 3 0) 1 0 = T 1 0 := rfl; have := hT.1; omega) rfl
