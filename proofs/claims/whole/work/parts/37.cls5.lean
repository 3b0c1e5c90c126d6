set_option maxHeartbeats 4000000 in
set_option maxRecDepth 100000 in
theorem c_bitCount {h : AH} {Q : Option Value → AH → Prop} {x : Nat} (hx : x < 4096) (hQ : Q (some (.int (nI (pop 12 x)))) h) : Cn 1 yJ6_bitCount_0f7a4 cJ6_bitCount_0f7a4 1 (some .int) [.int (nI x)] h Q := by
  refine cn_ofF (own := RJ6) (lo := [some (.int (nI x))]) 0 rfl (by decide +kernel) rfl (Nat.le_of_ble_eq_true rfl) ?_
  refine go_iloadn0 (q := 1) dJ6_bitCount_0f7a4_0 rfl ?_
  refine go_iloadn0 (q := 2) dJ6_bitCount_0f7a4_1 rfl ?_
  refine go_iconstN (n := 1) (q := 3) dJ6_bitCount_0f7a4_2 rfl ?_
  refine go_iushr (q := 4) dJ6_bitCount_0f7a4_3 rfl ?_
  refine go_ldcw (q := 7) dJ6_bitCount_0f7a4_4 ko_J6_265 rfl ?_
  refine go_iand (q := 8) dJ6_bitCount_0f7a4_7 rfl ?_
  refine go_isub (q := 9) dJ6_bitCount_0f7a4_8 rfl ?_
  refine go_istoren0 (q := 10) dJ6_bitCount_0f7a4_9 (by decide) rfl ?_
  refine go_iloadn0 (q := 11) dJ6_bitCount_0f7a4_10 rfl ?_
  refine go_ldcw (q := 14) dJ6_bitCount_0f7a4_11 ko_J6_266 rfl ?_
  refine go_iand (q := 15) dJ6_bitCount_0f7a4_14 rfl ?_
  refine go_iloadn0 (q := 16) dJ6_bitCount_0f7a4_15 rfl ?_
  refine go_iconstN (n := 2) (q := 17) dJ6_bitCount_0f7a4_16 rfl ?_
  refine go_iushr (q := 18) dJ6_bitCount_0f7a4_17 rfl ?_
  refine go_ldcw (q := 21) dJ6_bitCount_0f7a4_18 ko_J6_266 rfl ?_
  refine go_iand (q := 22) dJ6_bitCount_0f7a4_21 rfl ?_
  refine go_iadd (q := 23) dJ6_bitCount_0f7a4_22 rfl ?_
  refine go_istoren0 (q := 24) dJ6_bitCount_0f7a4_23 (by decide) rfl ?_
  refine go_iloadn0 (q := 25) dJ6_bitCount_0f7a4_24 rfl ?_
  refine go_iloadn0 (q := 26) dJ6_bitCount_0f7a4_25 rfl ?_
  refine go_iconstN (n := 4) (q := 27) dJ6_bitCount_0f7a4_26 rfl ?_
  refine go_iushr (q := 28) dJ6_bitCount_0f7a4_27 rfl ?_
  refine go_iadd (q := 29) dJ6_bitCount_0f7a4_28 rfl ?_
  refine go_ldcw (q := 32) dJ6_bitCount_0f7a4_29 ko_J6_267 rfl ?_
  refine go_iand (q := 33) dJ6_bitCount_0f7a4_32 rfl ?_
  refine go_istoren0 (q := 34) dJ6_bitCount_0f7a4_33 (by decide) rfl ?_
  refine go_iloadn0 (q := 35) dJ6_bitCount_0f7a4_34 rfl ?_
  refine go_iloadn0 (q := 36) dJ6_bitCount_0f7a4_35 rfl ?_
  refine go_bipushN (v := 8) (q := 38) dJ6_bitCount_0f7a4_36 (by decide) rfl ?_
  refine go_iushr (q := 39) dJ6_bitCount_0f7a4_38 rfl ?_
  refine go_iadd (q := 40) dJ6_bitCount_0f7a4_39 rfl ?_
  refine go_istoren0 (q := 41) dJ6_bitCount_0f7a4_40 (by decide) rfl ?_
  refine go_iloadn0 (q := 42) dJ6_bitCount_0f7a4_41 rfl ?_
  refine go_iloadn0 (q := 43) dJ6_bitCount_0f7a4_42 rfl ?_
  refine go_bipushN (v := 16) (q := 45) dJ6_bitCount_0f7a4_43 (by decide) rfl ?_
  refine go_iushr (q := 46) dJ6_bitCount_0f7a4_45 rfl ?_
  refine go_iadd (q := 47) dJ6_bitCount_0f7a4_46 rfl ?_
  refine go_istoren0 (q := 48) dJ6_bitCount_0f7a4_47 (by decide) rfl ?_
  refine go_iloadn0 (q := 49) dJ6_bitCount_0f7a4_48 rfl ?_
  refine go_bipushN (v := 63) (q := 51) dJ6_bitCount_0f7a4_49 (by decide) rfl ?_
  refine go_iand (q := 52) dJ6_bitCount_0f7a4_51 rfl ?_
  refine go_iretE dJ6_bitCount_0f7a4_52 rfl ?_ hQ
  clear hQ
  revert x
  decide +kernel

theorem rk_mono {w : Nat} : ∀ {a s t : Nat}, a < 2 ^ w → sub s a → sub t a → s < t → rk w a s < rk w a t := by
  induction w with
  | zero =>
    intro a s t ha hs ht hlt
    have := sub_le ht
    rw [Nat.pow_zero] at ha
    omega
  | succ w ih =>
    intro a s t ha hs ht hlt
    obtain ⟨h1, -⟩ := sub_half hs
    obtain ⟨h2, -⟩ := sub_half ht
    have h3 := sub_low hs
    have h4 := sub_low ht
    rw [Nat.pow_succ] at ha
    unfold rk
    rcases Nat.lt_or_ge (s / 2) (t / 2) with z | z
    · have := ih (by omega) h1 h2 z
      split <;> omega
    · have e : s / 2 = t / 2 := by omega
      rw [e]
      split <;> omega
theorem rk_pos {a s : Nat} (ha : a < 4096) (hs : sub s a) (h : 0 < s) : 0 < rk 12 a s := by
  have := rk_mono (w := 12) ha (sub_0 a) hs h
  omega

theorem pop_le (w : Nat) : ∀ a, pop w a ≤ w := by
  induction w with
  | zero => intro a; exact Nat.le_refl _
  | succ w ih => intro a; unfold pop; have := ih (a / 2); omega
theorem plantS_13 (M : Mk) (s n : Nat) : plantS M s n 13 = M 13 := by funext i; simp [plantS]
theorem wf_plantS {M : Mk} (h : WF M) (s n : Nat) : WF (plantS M s n) := by
  obtain ⟨a1, a2, a3, a4, a5, a6, a7⟩ := h
  refine ⟨by rw [plantS_13]; exact a1, by rw [plantS_13]; exact a2, by rw [plantS_13]; exact a3, fun c => ⟨(a4 c).1, (a4 c).2.1, (a4 c).2.2.1, ?_⟩, a5, a6, a7⟩
  have := (a4 c).2.2.2
  unfold plantS
  split <;> omega

set_option maxHeartbeats 4000000 in
set_option maxRecDepth 100000 in
theorem c_purseWith {S : St} {N : Nat → Nat → Int64} {X : St} {Y : Nat → Int64} {Q : Option Value → AH → Prop} {s f n : Nat} (hw : WF (S 0)) (hs : s < 4096) (hf : f ≤ 3) (hn : S 0 13 2 + n ≤ 10000) (hO : ∀ S', Cc S S' (S 0) → Q (some (.int (nI (purse (monN (plantS (S 0) s (S 0 13 0)) n) f)))) (hp S' N X Y)) : Cn 19 yX3_purseWith cX3_purseWith 4 (some .int) [.ref 0, .int (nI s), .int (nI f), .int (nI n)] (hp S N X Y) Q := by
  refine cn_of (own := RX3) (lo := [some (.ref 0), some (.int (nI s)), some (.int (nI f)), some (.int (nI n))]) 0 rfl (by decide +kernel) rfl (Nat.le_of_ble_eq_true rfl) ?_
  refine go_aloadn0 (q := 1) dX3_purseWith_0 rfl ?_
  refine go_cg (q := 4) dX3_purseWith_1 fl_X3_19 rfl rfl ?_
  refine go_aloadn0 (q := 5) dX3_purseWith_4 rfl ?_
  refine go_cg (q := 8) dX3_purseWith_5 fl_X3_10 rfl rfl ?_
  refine go_im1 (q := 11) dX3_purseWith_8 lk_X3_183 (by decide) (by decide) (Nat.le_of_ble_eq_true rfl) (by decide) rfl (c_become (a := 0) (b := 2) (by decide) (by decide) (by decide) (fun S1 g1 => ?_))
  have hw1 : WF (S1 2) := g1.wf hw
  have e1 := g1.1
  have gg := g1.trial (Or.inl rfl)
  refine go_aloadn0 (q := 12) dX3_purseWith_11 rfl ?_
  refine go_cg (q := 15) dX3_purseWith_12 fl_X3_19 rfl rfl ?_
  refine go_iloadn1 (q := 16) dX3_purseWith_15 rfl ?_
  refine go_im1 (q := 19) dX3_purseWith_16 lk_X3_272 (by decide) (by decide) (Nat.le_of_ble_eq_true rfl) (by decide) rfl (c_plantSet (by decide) hw1 (by omega) (fun S2 g2 => ?_))
  have e2 : S2 2 = plantS (S 0) s (S 0 13 0) := by rw [g2.1, e1]
  have hw2 : WF (S2 2) := by rw [e2]; exact wf_plantS hw _ _
  have gg2 := gg.tr2 (g2.trial (Or.inl rfl))
  refine go_aloadn0 (q := 20) dX3_purseWith_19 rfl ?_
  refine go_cg (q := 23) dX3_purseWith_20 fl_X3_19 rfl rfl ?_
  refine go_iloadn3 (q := 24) dX3_purseWith_23 rfl ?_
  refine go_im1 (q := 27) dX3_purseWith_24 lk_X3_173 (by decide) (by decide) (Nat.le_of_ble_eq_true rfl) (by decide) rfl (c_goOn (by decide) hw2 (by rw [e2, plantS_13]; exact hn) (fun S3 g3 => ?_))
  have e3 : S3 2 = monN (plantS (S 0) s (S 0 13 0)) n := by rw [g3.1, e2]
  have hw3 : WF (S3 2) := by rw [e3]; exact (wf_monN (wf_plantS hw _ _) (by rw [plantS_13]; exact hn)).1
  have gg3 := gg2.tr2 (g3.trial (Or.inl rfl))
  refine go_aloadn0 (q := 28) dX3_purseWith_27 rfl ?_
  refine go_cg (q := 31) dX3_purseWith_28 fl_X3_19 rfl rfl ?_
  refine go_iloadn2 (q := 32) dX3_purseWith_31 rfl ?_
  refine go_im1 (q := 35) dX3_purseWith_32 lk_X3_124 (by decide) (by decide) (Nat.le_of_ble_eq_true rfl) (by decide) rfl (c_purseOf (by decide) hw3 (by omega) ?_)
  rw [e3]
  exact go_iret dX3_purseWith_35 rfl (hO _ gg3)

set_option maxHeartbeats 4000000 in
set_option maxRecDepth 100000 in
theorem c_field_122 {S : St} {N : Nat → Nat → Int64} {X : St} {Y : Nat → Int64} {Q : Option Value → AH → Prop} {f n : Nat} (hw : WF (S 0)) (hf : f ≤ 3) (hn : S 0 13 2 + n ≤ 10000) (hp6 : pop 12 (sets (S 0) f) ≤ 6) (hO : ∀ S', Cc S S' (S 0) → Q (some (.int (nI (fb (fun s => purse (monN (plantS (S 0) s (S 0 13 0)) n) f) (sets (S 0) f) ((sets (S 0) f) + 1))))) (hp S' N X Y)) {i s w : Nat} {S1 : St} (hi : i < 2 ^ pop 12 (sets (S 0) f)) (gg : Cc S S1 (S 0)) (hs : sub s (sets (S 0) f)) (hr : rk 12 (sets (S 0) f) s = i) (K : ∀ (s2 : Nat) (S3 : St), i + 1 < 2 ^ pop 12 (sets (S 0) f) → Cc S S3 (S 0) → sub s2 (sets (S 0) f) → rk 12 (sets (S 0) f) s2 = i + 1 → Go 20 RX3 cX3_field 9 (some .int) 86 [some (.ref 0), some (.int (nI f)), some (.int (nI n)), some (.int (nI (sets (S 0) f))), some (.int (mI (i + 1) ((fun s => purse (monN (plantS (S 0) s (S 0 13 0)) n) f) (fb (fun s => purse (monN (plantS (S 0) s (S 0 13 0)) n) f) (sets (S 0) f) s2)))), some (.int (nI (fb (fun s => purse (monN (plantS (S 0) s (S 0 13 0)) n) f) (sets (S 0) f) s2))), some (.int (nI s2)), some (.int (nI (i + 1))), none] [] (hp S3 N X Y) Q) : Go 20 RX3 cX3_field 9 (some .int) 122 [some (.ref 0), some (.int (nI f)), some (.int (nI n)), some (.int (nI (sets (S 0) f))), some (.int (mI (i + 1) ((fun s => purse (monN (plantS (S 0) s (S 0 13 0)) n) f) (fb (fun s => purse (monN (plantS (S 0) s (S 0 13 0)) n) f) (sets (S 0) f) (s + 1))))), some (.int (nI (fb (fun s => purse (monN (plantS (S 0) s (S 0 13 0)) n) f) (sets (S 0) f) (s + 1)))), some (.int (nI s)), some (.int (nI i)), some (.int (nI w))] [] (hp S1 N X Y) Q := by
  refine go_iload6 (q := 124) dX3_field_122 rfl ?_
  refine go_iloadn3 (q := 125) dX3_field_124 rfl ?_
  refine go_isub (q := 126) dX3_field_125 rfl ?_
  refine go_iloadn3 (q := 127) dX3_field_126 rfl ?_
  refine go_iand (q := 128) dX3_field_127 rfl ?_
  refine go_st (st' := [.int (nI (nxt 12 (sets (S 0) f) s))]) (by rw [m_nxt (sets_lt hw f) hs]) ?_
  refine go_istore6 (q := 130) dX3_field_128 rfl (by decide) rfl ?_
  refine go_iincN7 (n := 1) (q := 133) dX3_field_130 rfl (by decide) rfl ?_
  refine go_goto (tgt := 86) dX3_field_133 (by decide) ?_
  by_cases hea : s = (sets (S 0) f)
  · have hend : i + 1 = 2 ^ pop 12 (sets (S 0) f) := by rw [← hr, hea]; exact rk_all 12 _
    have h64 : 2 ^ pop 12 (sets (S 0) f) ≤ 2 ^ 6 := Nat.pow_le_pow_right (by decide) hp6
    rw [hea]
    refine go_iload7 (q := 88) dX3_field_86 rfl ?_
    refine go_iconstN (n := 1) (q := 89) dX3_field_88 rfl ?_
    refine go_iloadn3 (q := 90) dX3_field_89 rfl ?_
    refine go_is1_ (q := 93) dX3_field_90 lk_X3_203 (by decide) (by decide) (Nat.le_of_ble_eq_true rfl) rfl (c_bitCount (sets_lt hw f) ?_)
    refine go_ishl (q := 94) dX3_field_93 rfl ?_
    refine go_st (st' := [.int (nI (2 ^ pop 12 (sets (S 0) f))), .int (nI (i + 1))]) (by rw [m_shl (by omega)]) ?_
    refine go_icmp_geN (tgt := 136) (q := 97) dX3_field_94 (by decide) rfl (by omega) (by omega) (fun h3 => ?_) (fun h3 => ?_)
    · skip
      refine go_iload5 (q := 138) dX3_field_136 rfl ?_
      exact go_iret dX3_field_138 rfl (hO _ gg)
    · skip
      exact absurd h3 (by omega)
  · obtain ⟨n1, n2, n3⟩ := nxt_ok 12 (sets (S 0) f) s (sets_lt hw f) hs hea
    have hrn := rk_nxt 12 (sets (S 0) f) s (sets_lt hw f) hs hea
    have hlt : i + 1 < 2 ^ pop 12 (sets (S 0) f) := by
      have h1 := rk_all 12 (sets (S 0) f)
      have h2 := rk_mono (w := 12) (sets_lt hw f) hs (sub_rf _) (Nat.lt_of_le_of_ne (sub_le hs) hea)
      omega
    refine go_forget (lo' := [some (.ref 0), some (.int (nI f)), some (.int (nI n)), some (.int (nI (sets (S 0) f))), some (.int (mI (i + 1) ((fun s => purse (monN (plantS (S 0) s (S 0 13 0)) n) f) (fb (fun s => purse (monN (plantS (S 0) s (S 0 13 0)) n) f) (sets (S 0) f) (s + 1))))), some (.int (nI (fb (fun s => purse (monN (plantS (S 0) s (S 0 13 0)) n) f) (sets (S 0) f) (s + 1)))), some (.int (nI (nxt 12 (sets (S 0) f) s))), some (.int (nI (i + 1))), none]) (fun i v hi => by match i, hi with | 0, h => exact h | 1, h => exact h | 2, h => exact h | 3, h => exact h | 4, h => exact h | 5, h => exact h | 6, h => exact h | 7, h => exact h | 8, h => cases h) ?_
    rw [← fb_nxt (w := 12) (sets_lt hw f) hs hea]
    exact K _ _ hlt gg n2 (by rw [hrn, hr])

set_option maxHeartbeats 4000000 in
set_option maxRecDepth 100000 in
theorem c_field_86 {S : St} {N : Nat → Nat → Int64} {X : St} {Y : Nat → Int64} {Q : Option Value → AH → Prop} {f n : Nat} (hw : WF (S 0)) (hf : f ≤ 3) (hn : S 0 13 2 + n ≤ 10000) (hp6 : pop 12 (sets (S 0) f) ≤ 6) (hO : ∀ S', Cc S S' (S 0) → Q (some (.int (nI (fb (fun s => purse (monN (plantS (S 0) s (S 0 13 0)) n) f) (sets (S 0) f) ((sets (S 0) f) + 1))))) (hp S' N X Y)) : ∀ (fu : Nat) (i s : Nat) (S1 : St), 2 ^ pop 12 (sets (S 0) f) - i < fu → (i < 2 ^ pop 12 (sets (S 0) f)) → (Cc S S1 (S 0)) → (sub s (sets (S 0) f)) → (rk 12 (sets (S 0) f) s = i) → Go 20 RX3 cX3_field 9 (some .int) 86 [some (.ref 0), some (.int (nI f)), some (.int (nI n)), some (.int (nI (sets (S 0) f))), some (.int (mI i ((fun s => purse (monN (plantS (S 0) s (S 0 13 0)) n) f) (fb (fun s => purse (monN (plantS (S 0) s (S 0 13 0)) n) f) (sets (S 0) f) s)))), some (.int (nI (fb (fun s => purse (monN (plantS (S 0) s (S 0 13 0)) n) f) (sets (S 0) f) s))), some (.int (nI s)), some (.int (nI i)), none] [] (hp S1 N X Y) Q := by
  intro fu
  induction fu with
  | zero => intro i s S1 hfu; exact absurd hfu (Nat.not_lt_zero _)
  | succ fu ih =>
    intro i s S1 hfu hi gg hs hr
    have ha := sets_lt hw f
    have hsl := sub_le hs
    have e0 := gg.1
    have hw1 : WF (S1 0) := by rw [e0]; exact hw
    have h64 : 2 ^ pop 12 (sets (S 0) f) ≤ 2 ^ 6 := Nat.pow_le_pow_right (by decide) hp6
    have hpl : ∀ s, purse (monN (plantS (S 0) s (S 0 13 0)) n) f ≤ 12 * 980 := fun s => purse_le (wf_monN (wf_plantS hw _ _) (by rw [plantS_13]; exact hn)).1 f
    have hi0 : i = 0 ↔ s = 0 := by
      constructor
      · intro z
        rw [z] at hr
        rcases Nat.eq_zero_or_pos s with q | q
        · exact q
        · exact absurd hr (Nat.ne_of_gt (rk_pos ha hs q))
      · intro z; rw [← hr, z, rk_0]
    refine go_iload7 (q := 88) dX3_field_86 rfl ?_
    refine go_iconstN (n := 1) (q := 89) dX3_field_88 rfl ?_
    refine go_iloadn3 (q := 90) dX3_field_89 rfl ?_
    refine go_is1_ (q := 93) dX3_field_90 lk_X3_203 (by decide) (by decide) (Nat.le_of_ble_eq_true rfl) rfl (c_bitCount ha ?_)
    refine go_ishl (q := 94) dX3_field_93 rfl ?_
    refine go_st (st' := [.int (nI (2 ^ pop 12 (sets (S 0) f))), .int (nI i)]) (by rw [m_shl (by omega)]) ?_
    refine go_icmp_geN (tgt := 136) (q := 97) dX3_field_94 (by decide) rfl (by omega) (by omega) (fun h3 => ?_) (fun h3 => ?_)
    · skip
      exact absurd h3 (by omega)
    · skip
      refine go_aloadn0 (q := 98) dX3_field_97 rfl ?_
      refine go_iload6 (q := 100) dX3_field_98 rfl ?_
      refine go_iloadn1 (q := 101) dX3_field_100 rfl ?_
      refine go_iloadn2 (q := 102) dX3_field_101 rfl ?_
      refine go_ic3 (q := 105) dX3_field_102 lk_X3_209 (by decide) (by decide) (Nat.le_of_ble_eq_true rfl) rfl (c_purseWith hw1 (by omega) hf (by rw [e0]; exact hn) (fun S2 g2 => ?_))
      rw [e0]
      have gg2 := gg.tr2 g2
      have hiff := mI_le (b := i) (v := (fun s => purse (monN (plantS (S 0) s (S 0 13 0)) n) f) (fb (fun s => purse (monN (plantS (S 0) s (S 0 13 0)) n) f) (sets (S 0) f) s)) (w := purse (monN (plantS (S 0) s (S 0 13 0)) n) f) (Nat.lt_of_le_of_lt (hpl s) (by decide)) (Nat.lt_of_le_of_lt (hpl _) (by decide))
      refine go_istore8 (q := 107) dX3_field_105 rfl (by decide) rfl ?_
      refine go_iload8 (q := 109) dX3_field_107 rfl ?_
      refine go_iload4 (q := 111) dX3_field_109 rfl ?_
      refine go_icmp_le (tgt := 122) (q := 114) dX3_field_111 (by decide) rfl (fun h5 => ?_) (fun h5 => ?_)
      · skip
        have hfb : fb (fun s => purse (monN (plantS (S 0) s (S 0 13 0)) n) f) (sets (S 0) f) (s + 1) = fb (fun s => purse (monN (plantS (S 0) s (S 0 13 0)) n) f) (sets (S 0) f) s := by show (if sub s (sets (S 0) f) ∧ _ then s else fb (fun s => purse (monN (plantS (S 0) s (S 0 13 0)) n) f) (sets (S 0) f) s) = _; rw [if_neg (fun z => z.2.elim (fun q => (hiff.mp h5).1 (hi0.mpr q)) (fun q => absurd (hiff.mp h5).2 (Nat.not_le_of_lt q)))]
        refine go_lo (lo' := [some (.ref 0), some (.int (nI f)), some (.int (nI n)), some (.int (nI (sets (S 0) f))), some (.int (mI (i + 1) ((fun s => purse (monN (plantS (S 0) s (S 0 13 0)) n) f) (fb (fun s => purse (monN (plantS (S 0) s (S 0 13 0)) n) f) (sets (S 0) f) (s + 1))))), some (.int (nI (fb (fun s => purse (monN (plantS (S 0) s (S 0 13 0)) n) f) (sets (S 0) f) (s + 1)))), some (.int (nI s)), some (.int (nI i)), some (.int (nI (purse (monN (plantS (S 0) s (S 0 13 0)) n) f)))]) (by rw [mI_s, hfb, mI, if_neg (hiff.mp h5).1]) ?_
        exact c_field_122 hw hf hn hp6 hO hi gg2 hs hr (fun s2 S3 k1 k2 k3 k4 => ih (i + 1) s2 S3 (by omega) k1 k2 k3 k4)
      · skip
        refine go_iload8 (q := 116) dX3_field_114 rfl ?_
        refine go_istore4 (q := 118) dX3_field_116 rfl (by decide) rfl ?_
        refine go_iload6 (q := 120) dX3_field_118 rfl ?_
        refine go_istore5 (q := 122) dX3_field_120 rfl (by decide) rfl ?_
        have hfb : fb (fun s => purse (monN (plantS (S 0) s (S 0 13 0)) n) f) (sets (S 0) f) (s + 1) = s := by show (if sub s (sets (S 0) f) ∧ _ then s else fb (fun s => purse (monN (plantS (S 0) s (S 0 13 0)) n) f) (sets (S 0) f) s) = _; rw [if_pos ⟨hs, by rw [← hi0]; rcases Nat.eq_zero_or_pos i with q | q; exact Or.inl q; refine Or.inr (Nat.lt_of_not_le (fun z => h5 (hiff.mpr ⟨by omega, z⟩)))⟩]
        refine go_lo (lo' := [some (.ref 0), some (.int (nI f)), some (.int (nI n)), some (.int (nI (sets (S 0) f))), some (.int (mI (i + 1) ((fun s => purse (monN (plantS (S 0) s (S 0 13 0)) n) f) (fb (fun s => purse (monN (plantS (S 0) s (S 0 13 0)) n) f) (sets (S 0) f) (s + 1))))), some (.int (nI (fb (fun s => purse (monN (plantS (S 0) s (S 0 13 0)) n) f) (sets (S 0) f) (s + 1)))), some (.int (nI s)), some (.int (nI i)), some (.int (nI (purse (monN (plantS (S 0) s (S 0 13 0)) n) f)))]) (by rw [mI_s, hfb]) ?_
        exact c_field_122 hw hf hn hp6 hO hi gg2 hs hr (fun s2 S3 k1 k2 k3 k4 => ih (i + 1) s2 S3 (by omega) k1 k2 k3 k4)

set_option maxHeartbeats 4000000 in
set_option maxRecDepth 100000 in
theorem c_field {S : St} {N : Nat → Nat → Int64} {X : St} {Y : Nat → Int64} {Q : Option Value → AH → Prop} {x z : Int32} (hw : WF (S 0)) (hB : ¬ (rg x 0 3 ∧ rg z 1 24) → ∀ S', Cf S S' 0 → Q (some (.int (-1000000001))) (hp S' N X Y)) (hS : ∀ n, 1 ≤ n → n ≤ 24 → z = nI n → rg x 0 3 → ¬ ((2 ≤ sea (S 0) ∧ sea (S 0) ≤ 5) ∧ ¬ 9999 < S 0 13 2 + n) → ∀ S', Cf S S' 4 → Q (some (.int (-1000000005))) (hp S' N X Y)) (hZ : ∀ f n, f ≤ 3 → 1 ≤ n → n ≤ 24 → x = nI f → z = nI n → (2 ≤ sea (S 0) ∧ sea (S 0) ≤ 5) → ¬ 9999 < S 0 13 2 + n → 6 < pop 12 (sets (S 0) f) → ∀ S', Cf S S' 6 → Q (some (.int (-1000000007))) (hp S' N X Y)) (hO : ∀ f n, f ≤ 3 → 1 ≤ n → n ≤ 24 → x = nI f → z = nI n → (2 ≤ sea (S 0) ∧ sea (S 0) ≤ 5) → ¬ 9999 < S 0 13 2 + n → pop 12 (sets (S 0) f) ≤ 6 → ∀ S', Cc S S' (S 0) → Q (some (.int (nI (fb (fun s => purse (monN (plantS (S 0) s (S 0 13 0)) n) f) (sets (S 0) f) ((sets (S 0) f) + 1))))) (hp S' N X Y)) : Cn 20 yX3_field cX3_field 9 (some .int) [.ref 0, .int x, .int z] (hp S N X Y) Q := by
  refine cn_of (own := RX3) (lo := [some (.ref 0), some (.int x), some (.int z), none, none, none, none, none, none]) 6 rfl (by decide +kernel) rfl (Nat.le_of_ble_eq_true rfl) ?_
  refine go_iloadn1 (q := 1) dX3_field_0 rfl ?_
  refine go_is1_ (q := 4) dX3_field_1 lk_X3_47 (by decide) (by decide) (Nat.le_of_ble_eq_true rfl) rfl (c_isOwner ?_)
  refine go_ifeqB (tgt := 17) (q := 7) dX3_field_4 (by decide) rfl (fun h1 => ?_) (fun h1 => ?_)
  · skip
    refine go_aloadn0 (q := 18) dX3_field_17 rfl ?_
    refine go_ldc (q := 20) dX3_field_18 ko_X3_55 rfl ?_
    refine go_ic1 (q := 23) dX3_field_20 lk_X3_56 (by decide) (by decide) (Nat.le_of_ble_eq_true rfl) rfl (c_finding (p := 0) (by decide) (by decide) ?_)
    exact go_iret dX3_field_23 rfl (hB (fun z => h1 z.1) _ (Cf.rf 0))
  · skip
    refine go_iloadn2 (q := 8) dX3_field_7 rfl ?_
    refine go_iconstN (n := 1) (q := 9) dX3_field_8 rfl ?_
    refine go_bipushN (v := 24) (q := 11) dX3_field_9 (by decide) rfl ?_
    refine go_is3_ (q := 14) dX3_field_11 lk_X3_51 (by decide) (by decide) (Nat.le_of_ble_eq_true rfl) rfl (c_isWithin (l := 1) (m := 24) (by decide) (by decide) ?_)
    refine go_ifneB (tgt := 24) (q := 17) dX3_field_14 (by decide) rfl (fun h2 => ?_) (fun h2 => ?_)
    · skip
      have h10 := h1
      obtain ⟨f, hf, rfl, -, -⟩ := rg_nat (n := 3) h1 (by omega) (by omega)
      obtain ⟨n, hn, rfl, hn1, -⟩ := rg_nat (n := 24) h2 (by omega) (by omega)
      refine go_aloadn0 (q := 25) dX3_field_24 rfl ?_
      refine go_cg (q := 28) dX3_field_25 fl_X3_10 rfl rfl ?_
      refine go_im0 (q := 31) dX3_field_28 lk_X3_119 (by decide) (by decide) (Nat.le_of_ble_eq_true rfl) (by decide) rfl (c_isPlant (by decide) hw ?_)
      refine go_ifeqB (tgt := 42) (q := 34) dX3_field_31 (by decide) rfl (fun h3 => ?_) (fun h3 => ?_)
      · skip
        refine go_aloadn0 (q := 43) dX3_field_42 rfl ?_
        refine go_ldc (q := 45) dX3_field_43 ko_X3_123 rfl ?_
        refine go_ic1 (q := 48) dX3_field_45 lk_X3_56 (by decide) (by decide) (Nat.le_of_ble_eq_true rfl) rfl (c_finding (p := 4) (by decide) (by decide) ?_)
        exact go_iret dX3_field_48 rfl (hS n (by omega) hn rfl h10 (fun z => h3 z.1) _ (Cf.rf 4))
      · skip
        refine go_aloadn0 (q := 35) dX3_field_34 rfl ?_
        refine go_iloadn2 (q := 36) dX3_field_35 rfl ?_
        refine go_ic1 (q := 39) dX3_field_36 lk_X3_143 (by decide) (by decide) (Nat.le_of_ble_eq_true rfl) rfl (c_past hw (by omega) ?_)
        refine go_ifeqB (tgt := 49) (q := 42) dX3_field_39 (by decide) rfl (fun h4 => ?_) (fun h4 => ?_)
        · skip
          refine go_aloadn0 (q := 50) dX3_field_49 rfl ?_
          refine go_cg (q := 53) dX3_field_50 fl_X3_10 rfl rfl ?_
          refine go_iloadn1 (q := 54) dX3_field_53 rfl ?_
          refine go_im1 (q := 57) dX3_field_54 lk_X3_200 (by decide) (by decide) (Nat.le_of_ble_eq_true rfl) (by decide) rfl (c_soundOf (by decide) hw (by omega) ?_)
          refine go_istoren3 (q := 58) dX3_field_57 rfl (by decide) rfl ?_
          refine go_iloadn3 (q := 59) dX3_field_58 rfl ?_
          refine go_is1_ (q := 62) dX3_field_59 lk_X3_203 (by decide) (by decide) (Nat.le_of_ble_eq_true rfl) rfl (c_bitCount (sets_lt hw f) ?_)
          have hpl := pop_le 12 (sets (S 0) f)
          refine go_bipushN (v := 6) (q := 64) dX3_field_62 (by decide) rfl ?_
          refine go_icmp_leN (tgt := 74) (q := 67) dX3_field_64 (by decide) rfl (by omega) (by omega) (fun h5 => ?_) (fun h5 => ?_)
          · skip
            refine go_iconstV (v := -1) (q := 75) dX3_field_74 (by decide) rfl ?_
            refine go_istore4 (q := 77) dX3_field_75 rfl (by decide) rfl ?_
            refine go_iconstN (n := 0) (q := 78) dX3_field_77 rfl ?_
            refine go_istore5 (q := 80) dX3_field_78 rfl (by decide) rfl ?_
            refine go_iconstN (n := 0) (q := 81) dX3_field_80 rfl ?_
            refine go_istore6 (q := 83) dX3_field_81 rfl (by decide) rfl ?_
            refine go_iconstN (n := 0) (q := 84) dX3_field_83 rfl ?_
            refine go_istore7 (q := 86) dX3_field_84 rfl (by decide) rfl ?_
            refine go_lo (lo' := [some (.ref 0), some (.int (nI f)), some (.int (nI n)), some (.int (nI (sets (S 0) f))), some (.int (mI 0 ((fun s => purse (monN (plantS (S 0) s (S 0 13 0)) n) f) (fb (fun s => purse (monN (plantS (S 0) s (S 0 13 0)) n) f) (sets (S 0) f) 0)))), some (.int (nI (fb (fun s => purse (monN (plantS (S 0) s (S 0 13 0)) n) f) (sets (S 0) f) 0))), some (.int (nI 0)), some (.int (nI 0)), none]) rfl ?_
            exact c_field_86 hw hf (by omega) h5 (hO f n hf (by omega) hn rfl rfl h3 h4 h5) (2 ^ pop 12 (sets (S 0) f) + 1) 0 0 S (Nat.lt_succ_of_le (Nat.sub_le _ _)) (Nat.two_pow_pos _) Cc.rf (sub_0 _) (rk_0 12 _)
          · skip
            refine go_aloadn0 (q := 68) dX3_field_67 rfl ?_
            refine go_ldc (q := 70) dX3_field_68 ko_X3_208 rfl ?_
            refine go_ic1 (q := 73) dX3_field_70 lk_X3_56 (by decide) (by decide) (Nat.le_of_ble_eq_true rfl) rfl (c_finding (p := 6) (by decide) (by decide) ?_)
            exact go_iret dX3_field_73 rfl (hZ f n hf (by omega) hn rfl rfl h3 h4 (by omega) _ (Cf.rf 6))
        · skip
          refine go_aloadn0 (q := 43) dX3_field_42 rfl ?_
          refine go_ldc (q := 45) dX3_field_43 ko_X3_123 rfl ?_
          refine go_ic1 (q := 48) dX3_field_45 lk_X3_56 (by decide) (by decide) (Nat.le_of_ble_eq_true rfl) rfl (c_finding (p := 4) (by decide) (by decide) ?_)
          exact go_iret dX3_field_48 rfl (hS n (by omega) hn rfl h10 (fun z => z.2 h4) _ (Cf.rf 4))
    · skip
      refine go_aloadn0 (q := 18) dX3_field_17 rfl ?_
      refine go_ldc (q := 20) dX3_field_18 ko_X3_55 rfl ?_
      refine go_ic1 (q := 23) dX3_field_20 lk_X3_56 (by decide) (by decide) (Nat.le_of_ble_eq_true rfl) rfl (c_finding (p := 0) (by decide) (by decide) ?_)
      exact go_iret dX3_field_23 rfl (hB (fun z => h2 z.2) _ (Cf.rf 0))

theorem u2_tw (M : Mk) (j i v w : Nat) : u2 (u2 M j i v) j i w = u2 M j i w := by
  funext b c
  unfold u2
  split <;> rfl

set_option maxHeartbeats 4000000 in
set_option maxRecDepth 100000 in
theorem c_priceFor_38 {S : St} {N : Nat → Nat → Int64} {X : St} {Y : Nat → Int64} {Q : Option Value → AH → Prop} {f v : Nat} (hw : WF (S 0)) (hf : f ≤ 3) (hv : v ≤ 9999) (hO : ∀ p, p ≤ 99 → v ≤ purse (u2 (S 0) 5 (sea (S 0)) p) f → (∀ q, q < p → ¬ v ≤ purse (u2 (S 0) 5 (sea (S 0)) q) f) → ∀ S', Cc S S' (S 0) → Q (some (.int (nI p))) (hp S' N X Y)) (hN : (∀ q, q ≤ 99 → ¬ v ≤ purse (u2 (S 0) 5 (sea (S 0)) q) f) → ∀ S', Cf S S' 3 → Q (some (.int (-1000000004))) (hp S' N X Y)) : ∀ (fu : Nat) (t : Nat) (S1 : St), 100 - t < fu → (t ≤ 100) → (Cc S S1 (S 0)) → (∀ q, u2 (S1 2) 5 (sea (S 0)) q = u2 (S 0) 5 (sea (S 0)) q) → (sea (S1 2) = sea (S 0)) → (WF (S1 2)) → (∀ q, q < t → ¬ v ≤ purse (u2 (S 0) 5 (sea (S 0)) q) f) → Go 5 RX3 cX3_priceFor 4 (some .int) 38 [some (.ref 0), some (.int (nI f)), some (.int (nI v)), some (.int (nI t))] [] (hp S1 N X Y) Q := by
  intro fu
  induction fu with
  | zero => intro t S1 hfu; exact absurd hfu (Nat.not_lt_zero _)
  | succ fu ih =>
    intro t S1 hfu ht gg hU hse hw1 hno
    have hsl := sea_lt (S 0)
    refine go_iloadn3 (q := 39) dX3_priceFor_38 rfl ?_
    refine go_bipushN (v := 99) (q := 41) dX3_priceFor_39 (by decide) rfl ?_
    refine go_icmp_gtN (tgt := 80) (q := 44) dX3_priceFor_41 (by decide) rfl (by omega) (by omega) (fun h3 => ?_) (fun h3 => ?_)
    · skip
      refine go_aloadn0 (q := 81) dX3_priceFor_80 rfl ?_
      refine go_ldc (q := 83) dX3_priceFor_81 ko_X3_193 rfl ?_
      refine go_ic1 (q := 86) dX3_priceFor_83 lk_X3_56 (by decide) (by decide) (Nat.le_of_ble_eq_true rfl) rfl (c_finding (p := 3) (by decide) (by decide) ?_)
      exact go_iret dX3_priceFor_86 rfl (hN (fun q hq => hno q (by omega)) _ (gg.f 3))
    · skip
      refine go_aloadn0 (q := 45) dX3_priceFor_44 rfl ?_
      refine go_cg (q := 48) dX3_priceFor_45 fl_X3_19 rfl rfl ?_
      refine go_mg (q := 51) dX3_priceFor_48 fl_X3_63 (by decide) rfl rfl ?_
      refine go_aloadn0 (q := 52) dX3_priceFor_51 rfl ?_
      refine go_cg (q := 55) dX3_priceFor_52 fl_X3_19 rfl rfl ?_
      refine go_im0 (q := 58) dX3_priceFor_55 lk_X3_96 (by decide) (by decide) (Nat.le_of_ble_eq_true rfl) (by decide) rfl (c_season (by decide) hw1 ?_)
      rw [hse]
      refine go_iloadn3 (q := 59) dX3_priceFor_58 rfl ?_
      refine go_mst (q := 60) dX3_priceFor_59 (by decide) (by decide) (show sea (S 0) < 12 from hsl) rfl ?_
      have g2 : Ch S1 (u3 S1 2 5 (sea (S 0)) t) 2 (u2 (S 0) 5 (sea (S 0)) t) := (Ch.rf.u 5 _ t).to (hU t)
      have hwu : WF (u2 (S 0) 5 (sea (S 0)) t) := hw.upd (by omega)
      have hw2 : WF (u3 S1 2 5 (sea (S 0)) t 2) := g2.wf hwu
      have gg2 := gg.tr2 (g2.trial (Or.inl rfl))
      have hpl := purse_le hwu f
      refine go_aloadn0 (q := 61) dX3_priceFor_60 rfl ?_
      refine go_cg (q := 64) dX3_priceFor_61 fl_X3_19 rfl rfl ?_
      refine go_iloadn1 (q := 65) dX3_priceFor_64 rfl ?_
      refine go_im1 (q := 68) dX3_priceFor_65 lk_X3_124 (by decide) (by decide) (Nat.le_of_ble_eq_true rfl) (by decide) rfl (c_purseOf (by decide) hw2 (by omega) ?_)
      rw [g2.1]
      refine go_iloadn2 (q := 69) dX3_priceFor_68 rfl ?_
      refine go_icmp_ltN (tgt := 74) (q := 72) dX3_priceFor_69 (by decide) rfl (Nat.lt_of_le_of_lt hpl (by decide)) (by omega) (fun h5 => ?_) (fun h5 => ?_)
      · skip
        refine go_iincN3 (n := 1) (q := 77) dX3_priceFor_74 rfl (by decide) rfl ?_
        refine go_goto (tgt := 38) dX3_priceFor_77 (by decide) ?_
        exact ih (t + 1) _ (by omega) (by omega) gg2 (fun q => by rw [g2.1, u2_tw]) (by rw [g2.1]; unfold sea; rw [u2_nj _ (by decide)]) hw2 (fun q hq => by rcases Nat.lt_or_ge q t with z | z; exact hno q z; rw [show q = t by omega]; omega)
      · skip
        refine go_iloadn3 (q := 73) dX3_priceFor_72 rfl ?_
        exact go_iret dX3_priceFor_73 rfl (hO t (by omega) (by omega) hno _ gg2)

set_option maxHeartbeats 4000000 in
set_option maxRecDepth 100000 in
theorem c_priceFor {S : St} {N : Nat → Nat → Int64} {X : St} {Y : Nat → Int64} {Q : Option Value → AH → Prop} {x z : Int32} (hw : WF (S 0)) (hB : ¬ (rg x 0 3 ∧ rg z 0 9999) → ∀ S', Cf S S' 0 → Q (some (.int (-1000000001))) (hp S' N X Y)) (hO : ∀ f v p, f ≤ 3 → v ≤ 9999 → x = nI f → z = nI v → p ≤ 99 → v ≤ purse (u2 (S 0) 5 (sea (S 0)) p) f → (∀ q, q < p → ¬ v ≤ purse (u2 (S 0) 5 (sea (S 0)) q) f) → ∀ S', Cc S S' (S 0) → Q (some (.int (nI p))) (hp S' N X Y)) (hN : ∀ f v, f ≤ 3 → v ≤ 9999 → x = nI f → z = nI v → (∀ q, q ≤ 99 → ¬ v ≤ purse (u2 (S 0) 5 (sea (S 0)) q) f) → ∀ S', Cf S S' 3 → Q (some (.int (-1000000004))) (hp S' N X Y)) : Cn 5 yX3_priceFor cX3_priceFor 4 (some .int) [.ref 0, .int x, .int z] (hp S N X Y) Q := by
  refine cn_of (own := RX3) (lo := [some (.ref 0), some (.int x), some (.int z), none]) 1 rfl (by decide +kernel) rfl (Nat.le_of_ble_eq_true rfl) ?_
  refine go_iloadn1 (q := 1) dX3_priceFor_0 rfl ?_
  refine go_is1_ (q := 4) dX3_priceFor_1 lk_X3_47 (by decide) (by decide) (Nat.le_of_ble_eq_true rfl) rfl (c_isOwner ?_)
  refine go_ifeqB (tgt := 18) (q := 7) dX3_priceFor_4 (by decide) rfl (fun h1 => ?_) (fun h1 => ?_)
  · skip
    refine go_aloadn0 (q := 19) dX3_priceFor_18 rfl ?_
    refine go_ldc (q := 21) dX3_priceFor_19 ko_X3_55 rfl ?_
    refine go_ic1 (q := 24) dX3_priceFor_21 lk_X3_56 (by decide) (by decide) (Nat.le_of_ble_eq_true rfl) rfl (c_finding (p := 0) (by decide) (by decide) ?_)
    exact go_iret dX3_priceFor_24 rfl (hB (fun z => h1 z.1) _ (Cf.rf 0))
  · skip
    refine go_iloadn2 (q := 8) dX3_priceFor_7 rfl ?_
    refine go_iconstN (n := 0) (q := 9) dX3_priceFor_8 rfl ?_
    refine go_sipushN (v := 9999) (q := 12) dX3_priceFor_9 (by decide) rfl ?_
    refine go_is3_ (q := 15) dX3_priceFor_12 lk_X3_51 (by decide) (by decide) (Nat.le_of_ble_eq_true rfl) rfl (c_isWithin (l := 0) (m := 9999) (by decide) (by decide) ?_)
    refine go_ifneB (tgt := 25) (q := 18) dX3_priceFor_15 (by decide) rfl (fun h2 => ?_) (fun h2 => ?_)
    · skip
      obtain ⟨f, hf, rfl, -, -⟩ := rg_nat (n := 3) h1 (by omega) (by omega)
      obtain ⟨v, hv, rfl, -, -⟩ := rg_nat (n := 9999) h2 (by omega) (by omega)
      refine go_aloadn0 (q := 26) dX3_priceFor_25 rfl ?_
      refine go_cg (q := 29) dX3_priceFor_26 fl_X3_19 rfl rfl ?_
      refine go_aloadn0 (q := 30) dX3_priceFor_29 rfl ?_
      refine go_cg (q := 33) dX3_priceFor_30 fl_X3_10 rfl rfl ?_
      refine go_im1 (q := 36) dX3_priceFor_33 lk_X3_183 (by decide) (by decide) (Nat.le_of_ble_eq_true rfl) (by decide) rfl (c_become (a := 0) (b := 2) (by decide) (by decide) (by decide) (fun S1 g1 => ?_))
      have hw1 : WF (S1 2) := g1.wf hw
      have e1 := g1.1
      have gg := g1.trial (Or.inl rfl)
      refine go_iconstN (n := 0) (q := 37) dX3_priceFor_36 rfl ?_
      refine go_istoren3 (q := 38) dX3_priceFor_37 rfl (by decide) rfl ?_
      exact c_priceFor_38 hw hf hv (fun p => hO f v p hf hv rfl rfl) (hN f v hf hv rfl rfl) 101 0 S1 (by omega) (by omega) gg (fun q => by rw [e1]) (by rw [e1]) hw1 (fun q hq => absurd hq (Nat.not_lt_zero q))
    · skip
      refine go_aloadn0 (q := 19) dX3_priceFor_18 rfl ?_
      refine go_ldc (q := 21) dX3_priceFor_19 ko_X3_55 rfl ?_
      refine go_ic1 (q := 24) dX3_priceFor_21 lk_X3_56 (by decide) (by decide) (Nat.le_of_ble_eq_true rfl) rfl (c_finding (p := 0) (by decide) (by decide) ?_)
      exact go_iret dX3_priceFor_24 rfl (hB (fun z => h2 z.2) _ (Cf.rf 0))

set_option maxHeartbeats 4000000 in
set_option maxRecDepth 100000 in
theorem c_taxMonth_33 {S : St} {N : Nat → Nat → Int64} {X : St} {Y : Nat → Int64} {Q : Option Value → AH → Prop} (hw : WF (S 0)) (hm : S 0 13 2 + 12 ≤ 10000) (hO : ∀ S', Cc S S' (S 0) → Q (some (.int (nI (rch (fun t => wset (monN (txd (monN (S 0) t) 4) (12 - t)) 4095) 11)))) (hp S' N X Y)) : ∀ (fu : Nat) (t a : Nat) (S1 : St), 12 - t < fu → (t ≤ 12) → (rch (fun t => wset (monN (txd (monN (S 0) t) 4) (12 - t)) 4095) (t - 1) = a) → (Cc S S1 (S 0)) → (S1 2 = monN (S 0) t) → Go 19 RX3 cX3_taxMonth 5 (some .int) 33 [some (.ref 0), some (.int (mI t ((fun t => wset (monN (txd (monN (S 0) t) 4) (12 - t)) 4095) (rch (fun t => wset (monN (txd (monN (S 0) t) 4) (12 - t)) 4095) (t - 1))))), some (.int (nI a)), some (.int (nI t)), none] [] (hp S1 N X Y) Q := by
  intro fu
  induction fu with
  | zero => intro t a S1 hfu; exact absurd hfu (Nat.not_lt_zero _)
  | succ fu ih =>
    intro t a S1 hfu ht ha gg e1
    have h2 := wf_monN hw (n := t) (by omega)
    have hw1 : WF (S1 2) := by rw [e1]; exact h2.1
    have hwt : ∀ t, t ≤ 12 → WF (monN (txd (monN (S 0) t) 4) (12 - t)) := fun t ht => (wf_monN (wf_txd (wf_monN hw (n := t) (by omega)).1 4) (by rw [txd_at (by decide), (wf_monN hw (n := t) (by omega)).2]; omega)).1
    have hle : ∀ t, t ≤ 12 → wset (monN (txd (monN (S 0) t) 4) (12 - t)) 4095 ≤ 12 * 980 := fun t ht => wset_le (hwt t ht) _
    have hrl := rch_le (fun t => wset (monN (txd (monN (S 0) t) 4) (12 - t)) 4095) (t - 1)
    refine go_iloadn3 (q := 34) dX3_taxMonth_33 rfl ?_
    refine go_bipushN (v := 12) (q := 36) dX3_taxMonth_34 (by decide) rfl ?_
    refine go_icmp_geN (tgt := 103) (q := 39) dX3_taxMonth_36 (by decide) rfl (by omega) (by omega) (fun h3 => ?_) (fun h3 => ?_)
    · skip
      refine go_iloadn2 (q := 104) dX3_taxMonth_103 rfl ?_
      exact go_iretN dX3_taxMonth_104 rfl (by rw [← ha, show t = 12 by omega]) (hO _ gg)
    · skip
      refine go_aloadn0 (q := 40) dX3_taxMonth_39 rfl ?_
      refine go_cg (q := 43) dX3_taxMonth_40 fl_X3_22 rfl rfl ?_
      refine go_aloadn0 (q := 44) dX3_taxMonth_43 rfl ?_
      refine go_cg (q := 47) dX3_taxMonth_44 fl_X3_19 rfl rfl ?_
      refine go_im1 (q := 50) dX3_taxMonth_47 lk_X3_183 (by decide) (by decide) (Nat.le_of_ble_eq_true rfl) (by decide) rfl (c_become (a := 2) (b := 3) (by decide) (by decide) (by decide) (fun S2 g2 => ?_))
      have e2 : S2 3 = monN (S 0) t := by rw [g2.1, e1]
      have hw2 : WF (S2 3) := by rw [e2]; exact h2.1
      have e22 : S2 2 = monN (S 0) t := by rw [g2.2 2 (by omega) (by omega), e1]
      refine go_aloadn0 (q := 51) dX3_taxMonth_50 rfl ?_
      refine go_cg (q := 54) dX3_taxMonth_51 fl_X3_22 rfl rfl ?_
      refine go_im0 (q := 57) dX3_taxMonth_54 lk_X3_167 (by decide) (by decide) (Nat.le_of_ble_eq_true rfl) (by decide) rfl (c_boil (by decide) hw2 (fun S3 g3 => ?_))
      have e3 : S3 3 = txd (monN (S 0) t) 4 := by rw [g3.1, e2]
      have hw3 : WF (S3 3) := by rw [e3]; exact wf_txd h2.1 4
      have e32 : S3 2 = monN (S 0) t := by rw [g3.2 2 (by omega) (by omega), e22]
      refine go_pop (q := 58) dX3_taxMonth_57 rfl rfl ?_
      refine go_aloadn0 (q := 59) dX3_taxMonth_58 rfl ?_
      refine go_cg (q := 62) dX3_taxMonth_59 fl_X3_22 rfl rfl ?_
      refine go_bipushN (v := 12) (q := 64) dX3_taxMonth_62 (by decide) rfl ?_
      refine go_iloadn3 (q := 65) dX3_taxMonth_64 rfl ?_
      refine go_isubN (q := 66) dX3_taxMonth_65 (by omega) rfl ?_
      refine go_im1 (q := 69) dX3_taxMonth_66 lk_X3_173 (by decide) (by decide) (Nat.le_of_ble_eq_true rfl) (by decide) rfl (c_goOn (by decide) hw3 (by rw [e3, txd_at (by decide), h2.2]; omega) (fun S4 g4 => ?_))
      have e4 : S4 3 = monN (txd (monN (S 0) t) 4) (12 - t) := by rw [g4.1, e3]
      have hw4 : WF (S4 3) := by rw [e4]; exact hwt t (by omega)
      have e42 : S4 2 = monN (S 0) t := by rw [g4.2 2 (by omega) (by omega), e32]
      have hw42 : WF (S4 2) := by rw [e42]; exact h2.1
      have gg4 := ((gg.tr2 (g2.trial (Or.inr rfl))).tr2 (g3.trial (Or.inr rfl))).tr2 (g4.trial (Or.inr rfl))
      refine go_aloadn0 (q := 70) dX3_taxMonth_69 rfl ?_
      refine go_cg (q := 73) dX3_taxMonth_70 fl_X3_22 rfl rfl ?_
      refine go_im0 (q := 76) dX3_taxMonth_73 lk_X3_212 (by decide) (by decide) (Nat.le_of_ble_eq_true rfl) (by decide) rfl (c_worthOfAll (by decide) hw4 ?_)
      rw [e4]
      have hiff := mI_le (b := t) (v := (fun t => wset (monN (txd (monN (S 0) t) 4) (12 - t)) 4095) (rch (fun t => wset (monN (txd (monN (S 0) t) 4) (12 - t)) 4095) (t - 1))) (w := wset (monN (txd (monN (S 0) t) 4) (12 - t)) 4095) (Nat.lt_of_le_of_lt (hle t (by omega)) (by decide)) (Nat.lt_of_le_of_lt (hle _ (show rch (fun t => wset (monN (txd (monN (S 0) t) 4) (12 - t)) 4095) (t - 1) ≤ 12 by omega)) (by decide))
      refine go_istore4 (q := 78) dX3_taxMonth_76 rfl (by decide) rfl ?_
      refine go_iload4 (q := 80) dX3_taxMonth_78 rfl ?_
      refine go_iloadn1 (q := 81) dX3_taxMonth_80 rfl ?_
      refine go_icmp_le (tgt := 89) (q := 84) dX3_taxMonth_81 (by decide) rfl (fun h5 => ?_) (fun h5 => ?_)
      · skip
        refine go_aloadn0 (q := 90) dX3_taxMonth_89 rfl ?_
        refine go_cg (q := 93) dX3_taxMonth_90 fl_X3_19 rfl rfl ?_
        refine go_iconstN (n := 1) (q := 94) dX3_taxMonth_93 rfl ?_
        refine go_im1 (q := 97) dX3_taxMonth_94 lk_X3_173 (by decide) (by decide) (Nat.le_of_ble_eq_true rfl) (by decide) rfl (c_goOn (n0 := 1) (by decide) hw42 (by rw [e42, h2.2]; omega) (fun S5 g5 => ?_))
        have e5 : S5 2 = monN (S 0) (t + 1) := by rw [g5.1, e42]; rfl
        have gg5 := gg4.tr2 (g5.trial (Or.inl rfl))
        refine go_iincN3 (n := 1) (q := 100) dX3_taxMonth_97 rfl (by decide) rfl ?_
        refine go_goto (tgt := 33) dX3_taxMonth_100 (by decide) ?_
        have hr : rch (fun t => wset (monN (txd (monN (S 0) t) 4) (12 - t)) 4095) t = rch (fun t => wset (monN (txd (monN (S 0) t) 4) (12 - t)) 4095) (t - 1) := rch_n t (hiff.mp h5)
        have ht0 := (hiff.mp h5).1
        refine go_lo (lo' := [some (.ref 0), some (.int (mI (t + 1) ((fun t => wset (monN (txd (monN (S 0) t) 4) (12 - t)) 4095) (rch (fun t => wset (monN (txd (monN (S 0) t) 4) (12 - t)) 4095) ((t + 1) - 1))))), some (.int (nI a)), some (.int (nI (t + 1))), some (.int (nI (wset (monN (txd (monN (S 0) t) 4) (12 - t)) 4095)))]) (by rw [mI_s, Nat.add_sub_cancel, hr, mI, if_neg ht0]) ?_
        refine go_forget (lo' := [some (.ref 0), some (.int (mI (t + 1) ((fun t => wset (monN (txd (monN (S 0) t) 4) (12 - t)) 4095) (rch (fun t => wset (monN (txd (monN (S 0) t) 4) (12 - t)) 4095) ((t + 1) - 1))))), some (.int (nI a)), some (.int (nI (t + 1))), none]) (fun i v hi => by match i, hi with | 0, h => exact h | 1, h => exact h | 2, h => exact h | 3, h => exact h | 4, h => cases h) ?_
        exact ih (t + 1) a S5 (by omega) (by omega) (by rw [Nat.add_sub_cancel, hr, ha]) gg5 e5
      · skip
        refine go_iload4 (q := 86) dX3_taxMonth_84 rfl ?_
        refine go_istoren1 (q := 87) dX3_taxMonth_86 rfl (by decide) rfl ?_
        refine go_iloadn3 (q := 88) dX3_taxMonth_87 rfl ?_
        refine go_istoren2 (q := 89) dX3_taxMonth_88 rfl (by decide) rfl ?_
        refine go_aloadn0 (q := 90) dX3_taxMonth_89 rfl ?_
        refine go_cg (q := 93) dX3_taxMonth_90 fl_X3_19 rfl rfl ?_
        refine go_iconstN (n := 1) (q := 94) dX3_taxMonth_93 rfl ?_
        refine go_im1 (q := 97) dX3_taxMonth_94 lk_X3_173 (by decide) (by decide) (Nat.le_of_ble_eq_true rfl) (by decide) rfl (c_goOn (n0 := 1) (by decide) hw42 (by rw [e42, h2.2]; omega) (fun S5 g5 => ?_))
        have e5 : S5 2 = monN (S 0) (t + 1) := by rw [g5.1, e42]; rfl
        have gg5 := gg4.tr2 (g5.trial (Or.inl rfl))
        refine go_iincN3 (n := 1) (q := 100) dX3_taxMonth_97 rfl (by decide) rfl ?_
        refine go_goto (tgt := 33) dX3_taxMonth_100 (by decide) ?_
        have hr : rch (fun t => wset (monN (txd (monN (S 0) t) 4) (12 - t)) 4095) t = t := rch_s t (fun z => h5 (hiff.mpr z))
        refine go_lo (lo' := [some (.ref 0), some (.int (mI (t + 1) ((fun t => wset (monN (txd (monN (S 0) t) 4) (12 - t)) 4095) (rch (fun t => wset (monN (txd (monN (S 0) t) 4) (12 - t)) 4095) ((t + 1) - 1))))), some (.int (nI t)), some (.int (nI (t + 1))), some (.int (nI (wset (monN (txd (monN (S 0) t) 4) (12 - t)) 4095)))]) (by rw [mI_s, Nat.add_sub_cancel, hr]) ?_
        refine go_forget (lo' := [some (.ref 0), some (.int (mI (t + 1) ((fun t => wset (monN (txd (monN (S 0) t) 4) (12 - t)) 4095) (rch (fun t => wset (monN (txd (monN (S 0) t) 4) (12 - t)) 4095) ((t + 1) - 1))))), some (.int (nI t)), some (.int (nI (t + 1))), none]) (fun i v hi => by match i, hi with | 0, h => exact h | 1, h => exact h | 2, h => exact h | 3, h => exact h | 4, h => cases h) ?_
        exact ih (t + 1) t S5 (by omega) (by omega) (by rw [Nat.add_sub_cancel, hr]) gg5 e5

set_option maxHeartbeats 4000000 in
set_option maxRecDepth 100000 in
theorem c_taxMonth {S : St} {N : Nat → Nat → Int64} {X : St} {Y : Nat → Int64} {Q : Option Value → AH → Prop} (hw : WF (S 0)) (hS : 9999 < S 0 13 2 + 12 → ∀ S', Cf S S' 4 → Q (some (.int (-1000000005))) (hp S' N X Y)) (hO : ¬ 9999 < S 0 13 2 + 12 → ∀ S', Cc S S' (S 0) → Q (some (.int (nI (rch (fun t => wset (monN (txd (monN (S 0) t) 4) (12 - t)) 4095) 11)))) (hp S' N X Y)) : Cn 19 yX3_taxMonth cX3_taxMonth 5 (some .int) [.ref 0] (hp S N X Y) Q := by
  refine cn_of (own := RX3) (lo := [some (.ref 0), none, none, none, none]) 4 rfl (by decide +kernel) rfl (Nat.le_of_ble_eq_true rfl) ?_
  refine go_aloadn0 (q := 1) dX3_taxMonth_0 rfl ?_
  refine go_bipushN (v := 12) (q := 3) dX3_taxMonth_1 (by decide) rfl ?_
  refine go_ic1 (q := 6) dX3_taxMonth_3 lk_X3_143 (by decide) (by decide) (Nat.le_of_ble_eq_true rfl) rfl (c_past hw (by omega) ?_)
  refine go_ifeqB (tgt := 16) (q := 9) dX3_taxMonth_6 (by decide) rfl (fun h4 => ?_) (fun h4 => ?_)
  · skip
    refine go_iconstV (v := -1) (q := 17) dX3_taxMonth_16 (by decide) rfl ?_
    refine go_istoren1 (q := 18) dX3_taxMonth_17 rfl (by decide) rfl ?_
    refine go_iconstN (n := 0) (q := 19) dX3_taxMonth_18 rfl ?_
    refine go_istoren2 (q := 20) dX3_taxMonth_19 rfl (by decide) rfl ?_
    refine go_aloadn0 (q := 21) dX3_taxMonth_20 rfl ?_
    refine go_cg (q := 24) dX3_taxMonth_21 fl_X3_19 rfl rfl ?_
    refine go_aloadn0 (q := 25) dX3_taxMonth_24 rfl ?_
    refine go_cg (q := 28) dX3_taxMonth_25 fl_X3_10 rfl rfl ?_
    refine go_im1 (q := 31) dX3_taxMonth_28 lk_X3_183 (by decide) (by decide) (Nat.le_of_ble_eq_true rfl) (by decide) rfl (c_become (a := 0) (b := 2) (by decide) (by decide) (by decide) (fun S1 g1 => ?_))
    have hw1 : WF (S1 2) := g1.wf hw
    have e1 := g1.1
    have gg := g1.trial (Or.inl rfl)
    refine go_iconstN (n := 0) (q := 32) dX3_taxMonth_31 rfl ?_
    refine go_istoren3 (q := 33) dX3_taxMonth_32 rfl (by decide) rfl ?_
    refine go_lo (lo' := [some (.ref 0), some (.int (mI 0 ((fun t => wset (monN (txd (monN (S 0) t) 4) (12 - t)) 4095) (rch (fun t => wset (monN (txd (monN (S 0) t) 4) (12 - t)) 4095) (0 - 1))))), some (.int (nI 0)), some (.int (nI 0)), none]) rfl ?_
    exact c_taxMonth_33 hw (by omega) (hO h4) 13 0 0 S1 (by omega) (by omega) rfl gg e1
  · skip
    refine go_aloadn0 (q := 10) dX3_taxMonth_9 rfl ?_
    refine go_ldc (q := 12) dX3_taxMonth_10 ko_X3_123 rfl ?_
    refine go_ic1 (q := 15) dX3_taxMonth_12 lk_X3_56 (by decide) (by decide) (Nat.le_of_ble_eq_true rfl) rfl (c_finding (p := 4) (by decide) (by decide) ?_)
    exact go_iret dX3_taxMonth_15 rfl (hS h4 _ (Cf.rf 4))

set_option maxHeartbeats 4000000 in
set_option maxRecDepth 100000 in
theorem c_bank {S : St} {N : Nat → Nat → Int64} {X : St} {Y : Nat → Int64} {Q : Option Value → AH → Prop} (hw : WF (S 0)) (hN : mbl (bl (S 0)) 4 = 0 → ∀ S', Cf S S' 3 → Q (some (.int (-1000000004))) (hp S' N X Y)) (hO : mbl (bl (S 0)) 4 ≠ 0 → Q (some (.int (nI (mbl (bl (S 0)) 4 - 1)))) (hp S N X Y)) : Cn 4 yX3_bank cX3_bank 2 (some .int) [.ref 0] (hp S N X Y) Q := by
  refine cn_of (own := RX3) (lo := [some (.ref 0), none]) 1 rfl (by decide +kernel) rfl (Nat.le_of_ble_eq_true rfl) ?_
  refine go_aloadn0 (q := 1) dX3_bank_0 rfl ?_
  refine go_cg (q := 4) dX3_bank_1 fl_X3_10 rfl rfl ?_
  refine go_im0 (q := 7) dX3_bank_4 lk_X3_215 (by decide) (by decide) (Nat.le_of_ble_eq_true rfl) (by decide) rfl (c_mostBlue (by decide) hw ?_)
  have hl := mbl_le (bl (S 0)) 4
  refine go_istoren1 (q := 8) dX3_bank_7 rfl (by decide) rfl ?_
  refine go_iloadn1 (q := 9) dX3_bank_8 rfl ?_
  refine go_if_ge (tgt := 21) (q := 12) dX3_bank_9 (by decide) rfl (fun h1 => ?_) (fun h1 => ?_)
  · skip
    refine go_iloadn1 (q := 22) dX3_bank_21 rfl ?_
    have hz : 1 ≤ mbl (bl (S 0)) 4 := by
      rcases Nat.eq_zero_or_pos (mbl (bl (S 0)) 4) with z | z
      · rw [z] at h1; exact absurd h1 (by decide)
      · exact z
    exact go_iretE dX3_bank_22 rfl (by rw [pk_sub hz]) (hO (by omega))
  · skip
    refine go_aloadn0 (q := 13) dX3_bank_12 rfl ?_
    refine go_ldc (q := 15) dX3_bank_13 ko_X3_193 rfl ?_
    refine go_ic1 (q := 18) dX3_bank_15 lk_X3_56 (by decide) (by decide) (Nat.le_of_ble_eq_true rfl) rfl (c_finding (p := 3) (by decide) (by decide) ?_)
    refine go_goto (tgt := 22) dX3_bank_18 (by decide) ?_
    exact go_iret dX3_bank_22 rfl (hN (by rcases Nat.eq_zero_or_pos (mbl (bl (S 0)) 4) with z | z; exact z; rw [pk_sub z] at h1; exact absurd (nI_pos' (by omega)) h1) _ (Cf.rf 3))
