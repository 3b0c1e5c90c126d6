def Kp (T T' : Mk) : Prop := tpG T' ∧ T' 0 = T 0 ∧ T' 1 0 = T 1 0
theorem Kp.rf {T : Mk} (h : tpG T) : Kp T T := ⟨h, rfl, rfl⟩
theorem Kp.s {T T' : Mk} (h : Kp T T') : Kp T (tkn T') := ⟨tkn_G h.1.1 h.1.2.2.1, (tkn_0 T').trans h.2.1, (tkn_10 T').trans h.2.2⟩
theorem pcoin_K {T M T' M' : Mk} {k : Nat} {b : Bool} (h : tpG T) (e : pcoin T M k = (b, T', M')) : Kp T T' := by
  have k0 := Kp.rf h
  unfold pcoin at e
  repeat' split at e
  all_goals
    cases e
    first
      | exact k0
      | exact k0.s
      | exact k0.s.s
      | exact k0.s.s.s
      | exact k0.s.s.s.s
      | exact k0.s.s.s.s.s
      | exact k0.s.s.s.s.s.s
theorem ptwo_K {T M T' M' : Mk} {j m x : Nat} {b : Bool} (h : tpG T) (e : ptwo T M j m x = (b, T', M')) : Kp T T' := by
  have k0 := Kp.rf h
  unfold ptwo at e
  repeat' split at e
  all_goals
    cases e
    first
      | exact k0.s
      | exact k0.s.s
      | exact k0.s.s.s
theorem ploan_K {T M T' M' : Mk} {b : Bool} (h : tpG T) (e : ploan T M = (b, T', M')) : Kp T T' := by
  have k0 := Kp.rf h
  unfold ploan at e
  repeat' split at e
  all_goals
    cases e
    first
      | exact k0.s
      | exact k0.s.s
      | exact k0.s.s.s
      | exact k0.s.s.s.s
      | exact k0.s.s.s.s.s
      | exact k0.s.s.s.s.s.s
      | exact k0.s.s.s.s.s.s.s
theorem pitem_K {T M T' M' : Mk} {b : Bool} (h : tpG T) (e : pitem T M = (b, T', M')) : Kp T T' := by
  unfold pitem at e
  repeat' split at e
  · exact pcoin_K h e
  · cases e; exact Kp.rf h
  · exact ptwo_K h e
  · exact ptwo_K h e
  · exact ploan_K h e
  · cases e; exact Kp.rf h

theorem kn_le (T : Mk) : kn T ≤ 6 := by
  unfold kn
  repeat' split
  all_goals omega
theorem pitem_n {T M T' M' : Mk} {b : Bool} (h : M 13 0 ≤ 12 ∧ M 13 1 ≤ 8) (e : pitem T M = (b, T', M')) : M' 13 0 ≤ 12 ∧ M' 13 1 ≤ 8 := by
  unfold pitem at e
  split at e
  · split at e
    · rename_i hc
      unfold pcoin at e
      repeat' split at e
      all_goals
        cases e
        first
          | exact h
          | exact ⟨hc, h.2⟩
    · cases e; exact h
  · split at e
    · unfold ptwo at e
      repeat' split at e
      all_goals
        cases e
        exact h
    · split at e
      · unfold ptwo at e
        repeat' split at e
        all_goals
          cases e
          exact h
      · split at e
        · rename_i hc
          unfold ploan at e
          repeat' split at e
          all_goals
            cases e
            first
              | exact h
              | exact ⟨h.1, hc.2⟩
        · cases e; exact h

set_option maxHeartbeats 4000000 in
set_option maxRecDepth 100000 in
theorem c_tellItem {S : St} {N : Nat → Nat → Int64} {X : St} {Y : Nat → Int64} {Q : Option Value → AH → Prop} (hG : tpG (S 4)) (hwc : S 2 13 0 ≤ 12 ∧ S 2 13 1 ≤ 8) (hQ : ∀ b T' M', pitem (S 4) (S 2) = (b, T', M') → ∀ S', Tz S S' T' M' → Q (some (.int (bI (b = true)))) (hp S' N X Y)) : Cn 8 yX2_tellItem cX2_tellItem 3 (some .boolean) [.ref 57, .ref (mo 2)] (hp S N X Y) Q := by
  refine cn_of (own := RX2) (lo := [some (.ref 57), some (.ref (mo 2)), none]) 1 rfl (by decide +kernel) rfl (Nat.le_of_ble_eq_true rfl) ?_
  have kn6 := kn_le (S 4)
  refine go_aloadn0 (q := 1) dX2_tellItem_0 rfl ?_
  refine go_it0 (q := 4) dX2_tellItem_1 lk_X2_35 (by decide) (by decide) (Nat.le_of_ble_eq_true rfl) rfl (c_kindNamed hG ?_)
  refine go_istoren2 (q := 5) dX2_tellItem_4 rfl (by decide) rfl ?_
  refine go_iloadn2 (q := 6) dX2_tellItem_5 rfl ?_
  refine go_if_lt (tgt := 33) (q := 9) dX2_tellItem_6 (by decide) rfl (fun h1 => ?_) (fun h1 => ?_)
  · skip
    have k6 : ¬ kn (S 4) < 6 := (tn_lt (by omega)).mp h1
    refine go_aloadn0 (q := 34) dX2_tellItem_33 rfl ?_
    refine go_ldcS 10 (by decide) dX2_tellItem_34 ⟨rfl, rfl⟩ rfl ?_
    refine go_it1 (q := 39) dX2_tellItem_36 lk_X2_50 (by decide) (by decide) (Nat.le_of_ble_eq_true rfl) rfl (c_isWord hG (by decide) ?_)
    refine go_ifeqB (tgt := 48) (q := 42) dX2_tellItem_39 (by decide) rfl (fun h2 => ?_) (fun h2 => ?_)
    · skip
      refine go_aloadn0 (q := 49) dX2_tellItem_48 rfl ?_
      refine go_ldcS 11 (by decide) dX2_tellItem_49 ⟨rfl, rfl⟩ rfl ?_
      refine go_it1 (q := 54) dX2_tellItem_51 lk_X2_50 (by decide) (by decide) (Nat.le_of_ble_eq_true rfl) rfl (c_isWord hG (by decide) ?_)
      refine go_ifeqB (tgt := 63) (q := 57) dX2_tellItem_54 (by decide) rfl (fun h3 => ?_) (fun h3 => ?_)
      · skip
        refine go_aloadn0 (q := 64) dX2_tellItem_63 rfl ?_
        refine go_ldcS 12 (by decide) dX2_tellItem_64 ⟨rfl, rfl⟩ rfl ?_
        refine go_it1 (q := 69) dX2_tellItem_66 lk_X2_50 (by decide) (by decide) (Nat.le_of_ble_eq_true rfl) rfl (c_isWord hG (by decide) ?_)
        refine go_ifeqB (tgt := 93) (q := 72) dX2_tellItem_69 (by decide) rfl (fun h4 => ?_) (fun h4 => ?_)
        · skip
          refine go_iconstN (n := 0) (q := 94) dX2_tellItem_93 rfl ?_
          exact go_zretF dX2_tellItem_94 rfl Bool.false_ne_true (hQ false _ _ (by unfold pitem; rw [if_neg k6, if_neg h2, if_neg h3, if_neg (fun w => h4 w.1)]) _ Tz.rf)
        · skip
          refine go_aloadn1 (q := 73) dX2_tellItem_72 rfl ?_
          refine go_mg (q := 76) dX2_tellItem_73 fl_X2_64 (by decide) rfl rfl ?_
          refine go_bipushN (v := 8) (q := 78) dX2_tellItem_76 (by decide) rfl ?_
          refine go_icmp_geN (tgt := 93) (q := 81) dX2_tellItem_78 (by decide) rfl (Nat.lt_of_le_of_lt hwc.2 (by decide)) (by omega) (fun h5 => ?_) (fun h5 => ?_)
          · skip
            refine go_iconstN (n := 0) (q := 94) dX2_tellItem_93 rfl ?_
            exact go_zretF dX2_tellItem_94 rfl Bool.false_ne_true (hQ false _ _ (by unfold pitem; rw [if_neg k6, if_neg h2, if_neg h3, if_neg (fun w => by omega)]) _ Tz.rf)
          · skip
            refine go_aloadn0 (q := 82) dX2_tellItem_81 rfl ?_
            refine go_aloadn1 (q := 83) dX2_tellItem_82 rfl ?_
            refine go_it1 (q := 86) dX2_tellItem_83 lk_X2_67 (by decide) (by decide) (Nat.le_of_ble_eq_true rfl) rfl (c_tellLoan hG (by omega) (fun b T1 M1 e1 S1 z1 => ?_))
            refine go_ifeqB (tgt := 93) (q := 89) dX2_tellItem_86 (by decide) rfl (fun hb => ?_) (fun hb => ?_)
            · skip
              refine go_iconstN (n := 0) (q := 94) dX2_tellItem_93 rfl ?_
              exact go_zretF dX2_tellItem_94 rfl hb (hQ _ _ _ (by unfold pitem; rw [if_neg k6, if_neg h2, if_neg h3, if_pos ⟨h4, by omega⟩, e1]) _ z1)
            · skip
              refine go_iconstN (n := 1) (q := 90) dX2_tellItem_89 rfl ?_
              refine go_goto (tgt := 94) dX2_tellItem_90 (by decide) ?_
              exact go_zretT dX2_tellItem_94 rfl hb (hQ _ _ _ (by unfold pitem; rw [if_neg k6, if_neg h2, if_neg h3, if_pos ⟨h4, by omega⟩, e1]) _ z1)
      · skip
        refine go_aloadn0 (q := 58) dX2_tellItem_57 rfl ?_
        refine go_aloadn1 (q := 59) dX2_tellItem_58 rfl ?_
        refine go_it1 (q := 62) dX2_tellItem_59 lk_X2_59 (by decide) (by decide) (Nat.le_of_ble_eq_true rfl) rfl (c_tellPrice hG (fun b T1 M1 e1 S1 z1 => ?_))
        exact go_zretB dX2_tellItem_62 rfl (hQ _ _ _ (by unfold pitem; rw [if_neg k6, if_neg h2, if_pos h3, e1]) _ z1)
    · skip
      refine go_aloadn0 (q := 43) dX2_tellItem_42 rfl ?_
      refine go_aloadn1 (q := 44) dX2_tellItem_43 rfl ?_
      refine go_it1 (q := 47) dX2_tellItem_44 lk_X2_54 (by decide) (by decide) (Nat.le_of_ble_eq_true rfl) rfl (c_tellSoil hG (fun b T1 M1 e1 S1 z1 => ?_))
      exact go_zretB dX2_tellItem_47 rfl (hQ _ _ _ (by unfold pitem; rw [if_neg k6, if_pos h2, e1]) _ z1)
  · skip
    have k6 : kn (S 4) < 6 := Decidable.not_not.mp (fun w => h1 ((tn_lt (by omega)).mpr w))
    rw [if_pos k6]
    refine go_aloadn1 (q := 10) dX2_tellItem_9 rfl ?_
    refine go_mg (q := 13) dX2_tellItem_10 fl_X2_39 (by decide) rfl rfl ?_
    refine go_bipushN (v := 12) (q := 15) dX2_tellItem_13 (by decide) rfl ?_
    refine go_icmp_geN (tgt := 31) (q := 18) dX2_tellItem_15 (by decide) rfl (Nat.lt_of_le_of_lt hwc.1 (by decide)) (by omega) (fun h2 => ?_) (fun h2 => ?_)
    · skip
      refine go_iconstN (n := 0) (q := 32) dX2_tellItem_31 rfl ?_
      exact go_zretF dX2_tellItem_32 rfl Bool.false_ne_true (hQ false _ _ (by unfold pitem; rw [if_pos k6, if_neg (by omega)]) _ Tz.rf)
    · skip
      refine go_aloadn0 (q := 19) dX2_tellItem_18 rfl ?_
      refine go_aloadn1 (q := 20) dX2_tellItem_19 rfl ?_
      refine go_iloadn2 (q := 21) dX2_tellItem_20 rfl ?_
      refine go_it2 (q := 24) dX2_tellItem_21 lk_X2_44 (by decide) (by decide) (Nat.le_of_ble_eq_true rfl) rfl (c_tellCoin hG (by omega) (fun b T1 M1 e1 S1 z1 => ?_))
      refine go_ifeqB (tgt := 31) (q := 27) dX2_tellItem_24 (by decide) rfl (fun hb => ?_) (fun hb => ?_)
      · skip
        refine go_iconstN (n := 0) (q := 32) dX2_tellItem_31 rfl ?_
        exact go_zretF dX2_tellItem_32 rfl hb (hQ _ _ _ (by unfold pitem; rw [if_pos k6, if_pos (by omega), e1]) _ z1)
      · skip
        refine go_iconstN (n := 1) (q := 28) dX2_tellItem_27 rfl ?_
        refine go_goto (tgt := 32) dX2_tellItem_28 (by decide) ?_
        exact go_zretT dX2_tellItem_32 rfl hb (hQ _ _ _ (by unfold pitem; rw [if_pos k6, if_pos (by omega), e1]) _ z1)

set_option maxHeartbeats 4000000 in
set_option maxRecDepth 100000 in
theorem c_tellItems_11 {S : St} {N : Nat → Nat → Int64} {X : St} {Y : Nat → Int64} {Q : Option Value → AH → Prop} (hL : S 4 1 0 ≤ 120) (hA : ∀ n M', n ≤ 120 → pitems 120 1 (tkn (u2 (S 4) 1 3 0)) (S 2) = (.inl n, M') → ∀ S', S' 2 = M' → S' 0 = S 0 → S' 1 = S 1 → S' 5 = S 5 → S' 6 = S 6 → S' 4 0 = S 4 0 → S' 4 1 0 = S 4 1 0 → Q (some (.int (nI n))) (hp S' N X Y)) (hB : ∀ s M', s ≤ 120 → pitems 120 1 (tkn (u2 (S 4) 1 3 0)) (S 2) = (.inr s, M') → ∀ S', S' 0 = S 0 → S' 1 = S 1 → S' 5 = S 5 → S' 6 = S 6 → S' 4 0 = S 4 0 → S' 4 1 0 = S 4 1 0 → Q (some (.int (-1 - nI s))) (hp S' N X Y)) : ∀ (fu : Nat) (n : Nat) (S1 : St) (T M : Mk), 121 - n < fu → (1 ≤ n) → (n ≤ 121) → (Tz S S1 T M) → (tpG T) → (M 13 0 ≤ 12 ∧ M 13 1 ≤ 8) → (T 0 = S 4 0) → (T 1 0 = S 4 1 0) → (pitems (121 - n) n T M = pitems 120 1 (tkn (u2 (S 4) 1 3 0)) (S 2)) → Go 9 RX2 cX2_tellItems 3 (some .int) 11 [some (.ref 57), some (.ref (mo 2)), some (.int (nI n))] [] (hp S1 N X Y) Q := by
  intro fu
  induction fu with
  | zero => intro n S1 T M hfu; exact absurd hfu (Nat.not_lt_zero _)
  | succ fu ih =>
    intro n S1 T M hfu hn hn2 z hG hwc e0 eL he
    have q1 : tpG (S1 4) := by rw [z.1]; exact hG
    refine go_iloadn2 (q := 12) dX2_tellItems_11 rfl ?_
    refine go_bipushN (v := 120) (q := 14) dX2_tellItems_12 (by decide) rfl ?_
    refine go_icmp_gtN (tgt := 66) (q := 17) dX2_tellItems_14 (by decide) rfl (by omega) (by omega) (fun h1 => ?_) (fun h1 => ?_)
    · skip
      refine go_iconstV (v := -1) (q := 67) dX2_tellItems_66 (by decide) rfl ?_
      refine go_aloadn0 (q := 68) dX2_tellItems_67 rfl ?_
      refine go_tg (q := 71) dX2_tellItems_68 fl_X2_29 rfl rfl ?_
      rw [z.1]
      refine go_isub (q := 72) dX2_tellItems_71 rfl ?_
      exact go_iret dX2_tellItems_72 rfl (hB (T 1 2) M (by have := hG.2.1; have := hG.2.2.1; omega) (by rw [← he, show 121 - n = 0 by omega]; rfl) _ z.2.2.1 z.2.2.2.1 z.2.2.2.2.1 z.2.2.2.2.2 (by rw [z.1]; exact e0) (by rw [z.1]; exact eL))
    · skip
      refine go_aloadn0 (q := 18) dX2_tellItems_17 rfl ?_
      refine go_aloadn1 (q := 19) dX2_tellItems_18 rfl ?_
      refine go_it1 (q := 22) dX2_tellItems_19 lk_X2_25 (by decide) (by decide) (Nat.le_of_ble_eq_true rfl) rfl (c_tellItem q1 (by rw [z.2.1]; exact hwc) (fun b T2 M2 e2 S2 z2 => ?_))
      rw [z.1, z.2.1] at e2
      have zz := z.tr z2
      have kk := pitem_K hG e2
      have nn := pitem_n hwc e2
      rw [show 121 - n = (120 - n) + 1 by omega] at he
      unfold pitems at he
      rw [e2] at he
      simp only at he
      have k4 := kk.1.2.2.2.2
      have k2 := kk.1.2.1
      have k3 := kk.1.2.2.1
      have k5 := kk.2.2
      refine go_ifneB (tgt := 32) (q := 25) dX2_tellItems_22 (by decide) rfl (fun h2 => ?_) (fun h2 => ?_)
      · skip
        subst h2
        rw [if_neg (by decide)] at he
        refine go_aloadn0 (q := 33) dX2_tellItems_32 rfl ?_
        refine go_tg (q := 36) dX2_tellItems_33 fl_X2_32 rfl rfl ?_
        rw [zz.1]
        refine go_if_neN (tgt := 41) (q := 39) dX2_tellItems_36 (by decide) rfl (by omega) (fun h3 => ?_) (fun h3 => ?_)
        · skip
          rw [if_neg h3] at he
          refine go_aloadn0 (q := 42) dX2_tellItems_41 rfl ?_
          refine go_tg (q := 45) dX2_tellItems_42 fl_X2_32 rfl rfl ?_
          rw [zz.1]
          refine go_iconstN (n := 3) (q := 46) dX2_tellItems_45 rfl ?_
          refine go_icmp_eqN (tgt := 56) (q := 49) dX2_tellItems_46 (by decide) rfl (by omega) (by omega) (fun h4 => ?_) (fun h4 => ?_)
          · skip
            rw [if_neg (Decidable.not_not.mpr h4)] at he
            have q2 : tpG (S2 4) := by rw [zz.1]; exact kk.1
            refine go_aloadn0 (q := 57) dX2_tellItems_56 rfl ?_
            refine go_it0 (q := 60) dX2_tellItems_57 lk_X2_22 (by decide) (by decide) (Nat.le_of_ble_eq_true rfl) rfl (c_goAhead q2.1 q2.2.2.1 (fun S3 g3 => ?_))
            refine go_iincN2 (n := 1) (q := 63) dX2_tellItems_60 rfl (by decide) rfl ?_
            refine go_goto (tgt := 11) dX2_tellItems_63 (by decide) ?_
            exact ih (n + 1) S3 (tkn T2) M2 (by omega) (by omega) (by omega) (zz.tk (g3.to (by rw [zz.1]))) kk.s.1 nn (kk.s.2.1.trans e0) (kk.s.2.2.trans eL) (by rw [show 121 - (n + 1) = 120 - n by omega]; exact he)
          · skip
            rw [if_pos h4] at he
            refine go_iconstV (v := -1) (q := 50) dX2_tellItems_49 (by decide) rfl ?_
            refine go_aloadn0 (q := 51) dX2_tellItems_50 rfl ?_
            refine go_tg (q := 54) dX2_tellItems_51 fl_X2_29 rfl rfl ?_
            rw [zz.1]
            refine go_isub (q := 55) dX2_tellItems_54 rfl ?_
            exact go_iret dX2_tellItems_55 rfl (hB (T2 1 2) M (by omega) he.symm _ zz.2.2.1 zz.2.2.2.1 zz.2.2.2.2.1 zz.2.2.2.2.2 (by rw [zz.1]; exact kk.2.1.trans e0) (by rw [zz.1]; exact kk.2.2.trans eL))
        · skip
          rw [if_pos h3] at he
          refine go_iloadn2 (q := 40) dX2_tellItems_39 rfl ?_
          exact go_iret dX2_tellItems_40 rfl (hA n M2 (by omega) he.symm _ zz.2.1 zz.2.2.1 zz.2.2.2.1 zz.2.2.2.2.1 zz.2.2.2.2.2 (by rw [zz.1]; exact kk.2.1.trans e0) (by rw [zz.1]; exact kk.2.2.trans eL))
      · skip
        obtain rfl : b = false := by cases b <;> simp_all
        rw [if_pos rfl] at he
        refine go_iconstV (v := -1) (q := 26) dX2_tellItems_25 (by decide) rfl ?_
        refine go_aloadn0 (q := 27) dX2_tellItems_26 rfl ?_
        refine go_tg (q := 30) dX2_tellItems_27 fl_X2_29 rfl rfl ?_
        rw [zz.1]
        refine go_isub (q := 31) dX2_tellItems_30 rfl ?_
        exact go_iret dX2_tellItems_31 rfl (hB (T2 1 2) M (by omega) he.symm _ zz.2.2.1 zz.2.2.2.1 zz.2.2.2.2.1 zz.2.2.2.2.2 (by rw [zz.1]; exact kk.2.1.trans e0) (by rw [zz.1]; exact kk.2.2.trans eL))

set_option maxHeartbeats 4000000 in
set_option maxRecDepth 100000 in
theorem c_tellItems {S : St} {N : Nat → Nat → Int64} {X : St} {Y : Nat → Int64} {Q : Option Value → AH → Prop} (hT : tpB (S 4)) (hwc : S 2 13 0 ≤ 12 ∧ S 2 13 1 ≤ 8) (hA : ∀ n M', n ≤ 120 → pitems 120 1 (tkn (u2 (S 4) 1 3 0)) (S 2) = (.inl n, M') → ∀ S', S' 2 = M' → S' 0 = S 0 → S' 1 = S 1 → S' 5 = S 5 → S' 6 = S 6 → S' 4 0 = S 4 0 → S' 4 1 0 = S 4 1 0 → Q (some (.int (nI n))) (hp S' N X Y)) (hB : ∀ s M', s ≤ 120 → pitems 120 1 (tkn (u2 (S 4) 1 3 0)) (S 2) = (.inr s, M') → ∀ S', S' 0 = S 0 → S' 1 = S 1 → S' 5 = S 5 → S' 6 = S 6 → S' 4 0 = S 4 0 → S' 4 1 0 = S 4 1 0 → Q (some (.int (-1 - nI s))) (hp S' N X Y)) : Cn 9 yX2_tellItems cX2_tellItems 3 (some .int) [.ref 57, .ref (mo 2)] (hp S N X Y) Q := by
  refine cn_of (own := RX2) (lo := [some (.ref 57), some (.ref (mo 2)), none]) 1 rfl (by decide +kernel) rfl (Nat.le_of_ble_eq_true rfl) ?_
  refine go_aloadn0 (q := 1) dX2_tellItems_0 rfl ?_
  refine go_iconstN (n := 0) (q := 2) dX2_tellItems_1 rfl ?_
  refine go_tpf (f := 3) (q := 5) dX2_tellItems_2 fp_X2_19 (by decide) rfl ?_
  have e4 : u3 S 4 1 3 0 4 = u2 (S 4) 1 3 0 := u3_k _ _ _ _ _
  have hT2 : tpB (u2 (S 4) 1 3 0) := hT
  refine go_aloadn0 (q := 6) dX2_tellItems_5 rfl ?_
  refine go_it0 (q := 9) dX2_tellItems_6 lk_X2_22 (by decide) (by decide) (Nat.le_of_ble_eq_true rfl) rfl (c_goAhead (by rw [e4]; exact hT2) (by rw [e4]; exact Nat.zero_le _) (fun S1 g1 => ?_))
  rw [e4] at g1
  refine go_iconstN (n := 1) (q := 10) dX2_tellItems_9 rfl ?_
  refine go_istoren2 (q := 11) dX2_tellItems_10 rfl (by decide) rfl ?_
  exact c_tellItems_11 hT.1 hA hB 121 1 S1 (tkn (u2 (S 4) 1 3 0)) (S 2) (by omega) (by omega) (by omega) ((Tz.rf.tk (Ch.rf.u 1 3 0)).tk g1) (tkn_G hT2 (Nat.zero_le _)) hwc ((tkn_0 _).trans rfl) rfl rfl
