set_option maxHeartbeats 4000000 in
set_option maxRecDepth 100000 in
theorem c_rots_44 {S : St} {N : Nat → Nat → Int64} {X : St} {Y : Nat → Int64} {Q : Option Value → AH → Prop} {c : Nat} (hw : WF (S 0)) (hc12 : c < 12) (hm : S 0 13 2 + 121 ≤ 10000) (hO : ∀ n, n ≤ 120 → agN (S 0) n 3 c = 1 → (∀ m, m < n → agN (S 0) m 3 c ≠ 1) → ∀ S', Cc S S' (S 0) → Q (some (.int (nI n))) (hp S' N X Y)) (hN : (∀ m, m ≤ 120 → agN (S 0) m 3 c ≠ 1) → ∀ S', Cf S S' 3 → Q (some (.int (-1000000004))) (hp S' N X Y)) : ∀ (fu : Nat) (t : Nat) (S1 : St), 121 - t < fu → (t ≤ 121) → (Cc S S1 (S 0)) → (S1 2 = agN (S 0) t) → (∀ m, m < t → agN (S 0) m 3 c ≠ 1) → Go 7 RX3 cX3_rots 3 (some .int) 44 [some (.ref 0), some (.int (nI c)), some (.int (nI t))] [] (hp S1 N X Y) Q := by
  intro fu
  induction fu with
  | zero => intro t S1 hfu; exact absurd hfu (Nat.not_lt_zero _)
  | succ fu ih =>
    intro t S1 hfu ht gg e1 hno
    have h2 := wf_agN hw (n := t) (by omega)
    have hw1 : WF (S1 2) := by rw [e1]; exact h2.1
    have h3 := hw1.st c
    refine go_iloadn2 (q := 45) dX3_rots_44 rfl ?_
    refine go_bipushN (v := 120) (q := 47) dX3_rots_45 (by decide) rfl ?_
    refine go_icmp_gtN (tgt := 79) (q := 50) dX3_rots_47 (by decide) rfl (by omega) (by omega) (fun h4 => ?_) (fun h4 => ?_)
    · skip
      refine go_aloadn0 (q := 80) dX3_rots_79 rfl ?_
      refine go_ldc (q := 82) dX3_rots_80 ko_X3_193 rfl ?_
      refine go_ic1 (q := 85) dX3_rots_82 lk_X3_56 (by decide) (by decide) (Nat.le_of_ble_eq_true rfl) rfl (c_finding (p := 3) (by decide) (by decide) ?_)
      exact go_iret dX3_rots_85 rfl (hN (fun m hm => hno m (by omega)) _ (gg.f 3))
    · skip
      refine go_aloadn0 (q := 51) dX3_rots_50 rfl ?_
      refine go_cg (q := 54) dX3_rots_51 fl_X3_19 rfl rfl ?_
      refine go_mg (q := 57) dX3_rots_54 fl_X3_90 (by decide) rfl rfl ?_
      refine go_iloadn1 (q := 58) dX3_rots_57 rfl ?_
      refine go_mld (q := 59) dX3_rots_58 (by decide) (by decide) hc12 rfl ?_
      refine go_iconstN (n := 1) (q := 60) dX3_rots_59 rfl ?_
      refine go_icmp_neN (tgt := 65) (q := 63) dX3_rots_60 (by decide) rfl (by omega) (by omega) (fun h5 => ?_) (fun h5 => ?_)
      · skip
        refine go_aloadn0 (q := 66) dX3_rots_65 rfl ?_
        refine go_cg (q := 69) dX3_rots_66 fl_X3_19 rfl rfl ?_
        refine go_iconstN (n := 1) (q := 70) dX3_rots_69 rfl ?_
        refine go_im1 (q := 73) dX3_rots_70 lk_X3_187 (by decide) (by decide) (Nat.le_of_ble_eq_true rfl) (by decide) rfl (c_age (n := 1) (by decide) hw1 (by rw [e1, h2.2]; omega) (fun S2 g2 => ?_))
        refine go_iincN2 (n := 1) (q := 76) dX3_rots_73 rfl (by decide) rfl ?_
        refine go_goto (tgt := 44) dX3_rots_76 (by decide) ?_
        exact ih (t + 1) S2 (by omega) (by omega) (gg.tr2 (g2.trial (Or.inl rfl))) (by rw [g2.1, e1]; rfl) (fun m hm => by rcases Nat.lt_or_ge m t with z | z; exact hno m z; rw [show m = t by omega, ← e1]; exact h5)
      · skip
        refine go_iloadn2 (q := 64) dX3_rots_63 rfl ?_
        exact go_iret dX3_rots_64 rfl (hO t (by omega) (by rw [← e1]; exact h5) hno _ gg)

set_option maxHeartbeats 4000000 in
set_option maxRecDepth 100000 in
theorem c_rots {S : St} {N : Nat → Nat → Int64} {X : St} {Y : Nat → Int64} {Q : Option Value → AH → Prop} {x : Int32} (hw : WF (S 0)) (hB : ¬ ic (S 0) x → ∀ S', Cf S S' 0 → Q (some (.int (-1000000001))) (hp S' N X Y)) (hS : ic (S 0) x → 9999 < S 0 13 2 + 120 → ∀ S', Cf S S' 4 → Q (some (.int (-1000000005))) (hp S' N X Y)) (hO : ∀ c n, c < S 0 13 0 → x = nI c → ¬ 9999 < S 0 13 2 + 120 → n ≤ 120 → agN (S 0) n 3 c = 1 → (∀ m, m < n → agN (S 0) m 3 c ≠ 1) → ∀ S', Cc S S' (S 0) → Q (some (.int (nI n))) (hp S' N X Y)) (hN : ∀ c, c < S 0 13 0 → x = nI c → ¬ 9999 < S 0 13 2 + 120 → (∀ m, m ≤ 120 → agN (S 0) m 3 c ≠ 1) → ∀ S', Cf S S' 3 → Q (some (.int (-1000000004))) (hp S' N X Y)) : Cn 7 yX3_rots cX3_rots 3 (some .int) [.ref 0, .int x] (hp S N X Y) Q := by
  refine cn_of (own := RX3) (lo := [some (.ref 0), some (.int x), none]) 1 rfl (by decide +kernel) rfl (Nat.le_of_ble_eq_true rfl) ?_
  refine go_aloadn0 (q := 1) dX3_rots_0 rfl ?_
  refine go_iloadn1 (q := 2) dX3_rots_1 rfl ?_
  refine go_ic1 (q := 5) dX3_rots_2 lk_X3_78 (by decide) (by decide) (Nat.le_of_ble_eq_true rfl) rfl (c_isCoin hw ?_)
  refine go_ifneB (tgt := 15) (q := 8) dX3_rots_5 (by decide) rfl (fun h1 => ?_) (fun h1 => ?_)
  · skip
    have h10 := h1
    obtain ⟨c, hc, hc12, rfl⟩ := ic_nat h1 hw
    refine go_aloadn0 (q := 16) dX3_rots_15 rfl ?_
    refine go_bipushN (v := 120) (q := 18) dX3_rots_16 (by decide) rfl ?_
    refine go_ic1 (q := 21) dX3_rots_18 lk_X3_143 (by decide) (by decide) (Nat.le_of_ble_eq_true rfl) rfl (c_past hw (by omega) ?_)
    refine go_ifeqB (tgt := 31) (q := 24) dX3_rots_21 (by decide) rfl (fun h4 => ?_) (fun h4 => ?_)
    · skip
      refine go_aloadn0 (q := 32) dX3_rots_31 rfl ?_
      refine go_cg (q := 35) dX3_rots_32 fl_X3_19 rfl rfl ?_
      refine go_aloadn0 (q := 36) dX3_rots_35 rfl ?_
      refine go_cg (q := 39) dX3_rots_36 fl_X3_10 rfl rfl ?_
      refine go_im1 (q := 42) dX3_rots_39 lk_X3_183 (by decide) (by decide) (Nat.le_of_ble_eq_true rfl) (by decide) rfl (c_become (a := 0) (b := 2) (by decide) (by decide) (by decide) (fun S1 g1 => ?_))
      have hw1 : WF (S1 2) := g1.wf hw
      have e1 := g1.1
      have gg := g1.trial (Or.inl rfl)
      refine go_iconstN (n := 0) (q := 43) dX3_rots_42 rfl ?_
      refine go_istoren2 (q := 44) dX3_rots_43 rfl (by decide) rfl ?_
      exact c_rots_44 (S := S) hw hc12 (by omega) (fun n hn h5 h6 => hO c n hc rfl h4 hn h5 h6) (hN c hc rfl h4) 122 0 S1 (by omega) (by omega) gg e1 (fun m hm => absurd hm (Nat.not_lt_zero m))
    · skip
      refine go_aloadn0 (q := 25) dX3_rots_24 rfl ?_
      refine go_ldc (q := 27) dX3_rots_25 ko_X3_123 rfl ?_
      refine go_ic1 (q := 30) dX3_rots_27 lk_X3_56 (by decide) (by decide) (Nat.le_of_ble_eq_true rfl) rfl (c_finding (p := 4) (by decide) (by decide) ?_)
      exact go_iret dX3_rots_30 rfl (hS h10 h4 _ (Cf.rf 4))
  · skip
    refine go_aloadn0 (q := 9) dX3_rots_8 rfl ?_
    refine go_ldc (q := 11) dX3_rots_9 ko_X3_55 rfl ?_
    refine go_ic1 (q := 14) dX3_rots_11 lk_X3_56 (by decide) (by decide) (Nat.le_of_ble_eq_true rfl) rfl (c_finding (p := 0) (by decide) (by decide) ?_)
    exact go_iret dX3_rots_14 rfl (hB h1 _ (Cf.rf 0))

set_option maxHeartbeats 4000000 in
set_option maxRecDepth 100000 in
theorem c_when_56 {S : St} {N : Nat → Nat → Int64} {X : St} {Y : Nat → Int64} {Q : Option Value → AH → Prop} {c : Nat} (hw : WF (S 0)) (hc12 : c < 12) (hm : S 0 13 2 + 24 ≤ 10000) (hO : ∀ S', Cc S S' (S 0) → Q (some (.int (nI (rch (fun n => wrt (agN (S 0) n) c) 24)))) (hp S' N X Y)) : ∀ (fu : Nat) (t a : Nat) (S1 : St), 24 - t < fu → (t ≤ 24) → (rch (fun n => wrt (agN (S 0) n) c) t = a) → (Cc S S1 (S 0)) → (S1 2 = agN (S 0) t) → Go 7 RX3 cX3_when 6 (some .int) 56 [some (.ref 0), some (.int (nI c)), some (.int (nI (wrt (agN (S 0) a) c))), some (.int (nI a)), some (.int (nI (t + 1))), none] [] (hp S1 N X Y) Q := by
  intro fu
  induction fu with
  | zero => intro t a S1 hfu; exact absurd hfu (Nat.not_lt_zero _)
  | succ fu ih =>
    intro t a S1 hfu ht ha gg e1
    have h2 := wf_agN hw (n := t) (by omega)
    have hw1 : WF (S1 2) := by rw [e1]; exact h2.1
    have hr := rch_le (fun n => wrt (agN (S 0) n) c) t
    have h7 := wrt_le (wf_agN hw (n := a) (by omega)).1 c
    refine go_iload4 (q := 58) dX3_when_56 rfl ?_
    refine go_bipushN (v := 24) (q := 60) dX3_when_58 (by decide) rfl ?_
    refine go_icmp_gtN (tgt := 99) (q := 63) dX3_when_60 (by decide) rfl (by omega) (by omega) (fun h4 => ?_) (fun h4 => ?_)
    · skip
      refine go_iloadn3 (q := 100) dX3_when_99 rfl ?_
      exact go_iretN dX3_when_100 rfl (by rw [← ha, show t = 24 by omega]) (hO _ gg)
    · skip
      refine go_aloadn0 (q := 64) dX3_when_63 rfl ?_
      refine go_cg (q := 67) dX3_when_64 fl_X3_19 rfl rfl ?_
      refine go_iconstN (n := 1) (q := 68) dX3_when_67 rfl ?_
      refine go_im1 (q := 71) dX3_when_68 lk_X3_187 (by decide) (by decide) (Nat.le_of_ble_eq_true rfl) (by decide) rfl (c_age (n := 1) (by decide) hw1 (by rw [e1, h2.2]; omega) (fun S2 g2 => ?_))
      have e2 : S2 2 = agN (S 0) (t + 1) := by rw [g2.1, e1]; rfl
      have h3 := wf_agN hw (n := t + 1) (by omega)
      have hw2 : WF (S2 2) := by rw [e2]; exact h3.1
      have h8 := wrt_le h3.1 c
      have gg2 := gg.tr2 (g2.trial (Or.inl rfl))
      refine go_aloadn0 (q := 72) dX3_when_71 rfl ?_
      refine go_cg (q := 75) dX3_when_72 fl_X3_19 rfl rfl ?_
      refine go_iloadn1 (q := 76) dX3_when_75 rfl ?_
      refine go_im1 (q := 79) dX3_when_76 lk_X3_93 (by decide) (by decide) (Nat.le_of_ble_eq_true rfl) (by decide) rfl (c_worthOf (by decide) hw2 hc12 ?_)
      rw [e2]
      refine go_istore5 (q := 81) dX3_when_79 rfl (by decide) rfl ?_
      refine go_iload5 (q := 83) dX3_when_81 rfl ?_
      refine go_iloadn2 (q := 84) dX3_when_83 rfl ?_
      refine go_icmp_leN (tgt := 93) (q := 87) dX3_when_84 (by decide) rfl (by omega) (by omega) (fun h5 => ?_) (fun h5 => ?_)
      · skip
        refine go_iincN4 (n := 1) (q := 96) dX3_when_93 rfl (by decide) rfl ?_
        refine go_goto (tgt := 56) dX3_when_96 (by decide) ?_
        refine go_forget (lo' := [some (.ref 0), some (.int (nI c)), some (.int (nI (wrt (agN (S 0) a) c))), some (.int (nI a)), some (.int (nI (t + 1 + 1))), none]) (fun i v hi => by match i, hi with | 0, h => exact h | 1, h => exact h | 2, h => exact h | 3, h => exact h | 4, h => exact h | 5, h => cases h) ?_
        exact ih (t + 1) a S2 (by omega) (by omega) (by rw [show rch (fun n => wrt (agN (S 0) n) c) (t + 1) = if wrt (agN (S 0) (rch (fun n => wrt (agN (S 0) n) c) t)) c < wrt (agN (S 0) (t + 1)) c then t + 1 else rch (fun n => wrt (agN (S 0) n) c) t from rfl, ha, if_neg (by omega)]) gg2 e2
      · skip
        refine go_iload5 (q := 89) dX3_when_87 rfl ?_
        refine go_istoren2 (q := 90) dX3_when_89 rfl (by decide) rfl ?_
        refine go_iload4 (q := 92) dX3_when_90 rfl ?_
        refine go_istoren3 (q := 93) dX3_when_92 rfl (by decide) rfl ?_
        refine go_iincN4 (n := 1) (q := 96) dX3_when_93 rfl (by decide) rfl ?_
        refine go_goto (tgt := 56) dX3_when_96 (by decide) ?_
        refine go_forget (lo' := [some (.ref 0), some (.int (nI c)), some (.int (nI (wrt (agN (S 0) (t + 1)) c))), some (.int (nI (t + 1))), some (.int (nI (t + 1 + 1))), none]) (fun i v hi => by match i, hi with | 0, h => exact h | 1, h => exact h | 2, h => exact h | 3, h => exact h | 4, h => exact h | 5, h => cases h) ?_
        exact ih (t + 1) (t + 1) S2 (by omega) (by omega) (by rw [show rch (fun n => wrt (agN (S 0) n) c) (t + 1) = if wrt (agN (S 0) (rch (fun n => wrt (agN (S 0) n) c) t)) c < wrt (agN (S 0) (t + 1)) c then t + 1 else rch (fun n => wrt (agN (S 0) n) c) t from rfl, ha, if_pos (by omega)]) gg2 e2

set_option maxHeartbeats 4000000 in
set_option maxRecDepth 100000 in
theorem c_when {S : St} {N : Nat → Nat → Int64} {X : St} {Y : Nat → Int64} {Q : Option Value → AH → Prop} {x : Int32} (hw : WF (S 0)) (hB : ¬ ic (S 0) x → ∀ S', Cf S S' 0 → Q (some (.int (-1000000001))) (hp S' N X Y)) (hS : ic (S 0) x → 9999 < S 0 13 2 + 24 → ∀ S', Cf S S' 4 → Q (some (.int (-1000000005))) (hp S' N X Y)) (hO : ∀ c, c < S 0 13 0 → x = nI c → ¬ 9999 < S 0 13 2 + 24 → ∀ S', Cc S S' (S 0) → Q (some (.int (nI (rch (fun n => wrt (agN (S 0) n) c) 24)))) (hp S' N X Y)) : Cn 7 yX3_when cX3_when 6 (some .int) [.ref 0, .int x] (hp S N X Y) Q := by
  refine cn_of (own := RX3) (lo := [some (.ref 0), some (.int x), none, none, none, none]) 4 rfl (by decide +kernel) rfl (Nat.le_of_ble_eq_true rfl) ?_
  refine go_aloadn0 (q := 1) dX3_when_0 rfl ?_
  refine go_iloadn1 (q := 2) dX3_when_1 rfl ?_
  refine go_ic1 (q := 5) dX3_when_2 lk_X3_78 (by decide) (by decide) (Nat.le_of_ble_eq_true rfl) rfl (c_isCoin hw ?_)
  refine go_ifneB (tgt := 15) (q := 8) dX3_when_5 (by decide) rfl (fun h1 => ?_) (fun h1 => ?_)
  · skip
    have h10 := h1
    obtain ⟨c, hc, hc12, rfl⟩ := ic_nat h1 hw
    refine go_aloadn0 (q := 16) dX3_when_15 rfl ?_
    refine go_bipushN (v := 24) (q := 18) dX3_when_16 (by decide) rfl ?_
    refine go_ic1 (q := 21) dX3_when_18 lk_X3_143 (by decide) (by decide) (Nat.le_of_ble_eq_true rfl) rfl (c_past hw (by omega) ?_)
    refine go_ifeqB (tgt := 31) (q := 24) dX3_when_21 (by decide) rfl (fun h4 => ?_) (fun h4 => ?_)
    · skip
      refine go_aloadn0 (q := 32) dX3_when_31 rfl ?_
      refine go_cg (q := 35) dX3_when_32 fl_X3_19 rfl rfl ?_
      refine go_aloadn0 (q := 36) dX3_when_35 rfl ?_
      refine go_cg (q := 39) dX3_when_36 fl_X3_10 rfl rfl ?_
      refine go_im1 (q := 42) dX3_when_39 lk_X3_183 (by decide) (by decide) (Nat.le_of_ble_eq_true rfl) (by decide) rfl (c_become (a := 0) (b := 2) (by decide) (by decide) (by decide) (fun S1 g1 => ?_))
      have hw1 : WF (S1 2) := g1.wf hw
      have e1 := g1.1
      have gg := g1.trial (Or.inl rfl)
      refine go_aloadn0 (q := 43) dX3_when_42 rfl ?_
      refine go_cg (q := 46) dX3_when_43 fl_X3_19 rfl rfl ?_
      refine go_iloadn1 (q := 47) dX3_when_46 rfl ?_
      refine go_im1 (q := 50) dX3_when_47 lk_X3_93 (by decide) (by decide) (Nat.le_of_ble_eq_true rfl) (by decide) rfl (c_worthOf (by decide) hw1 hc12 ?_)
      rw [e1]
      refine go_istoren2 (q := 51) dX3_when_50 rfl (by decide) rfl ?_
      refine go_iconstN (n := 0) (q := 52) dX3_when_51 rfl ?_
      refine go_istoren3 (q := 53) dX3_when_52 rfl (by decide) rfl ?_
      refine go_iconstN (n := 1) (q := 54) dX3_when_53 rfl ?_
      refine go_istore4 (q := 56) dX3_when_54 rfl (by decide) rfl ?_
      exact c_when_56 (S := S) hw hc12 (by omega) (hO c hc rfl h4) 25 0 0 S1 (by omega) (by omega) rfl gg e1
    · skip
      refine go_aloadn0 (q := 25) dX3_when_24 rfl ?_
      refine go_ldc (q := 27) dX3_when_25 ko_X3_123 rfl ?_
      refine go_ic1 (q := 30) dX3_when_27 lk_X3_56 (by decide) (by decide) (Nat.le_of_ble_eq_true rfl) rfl (c_finding (p := 4) (by decide) (by decide) ?_)
      exact go_iret dX3_when_30 rfl (hS h10 h4 _ (Cf.rf 4))
  · skip
    refine go_aloadn0 (q := 9) dX3_when_8 rfl ?_
    refine go_ldc (q := 11) dX3_when_9 ko_X3_55 rfl ?_
    refine go_ic1 (q := 14) dX3_when_11 lk_X3_56 (by decide) (by decide) (Nat.le_of_ble_eq_true rfl) rfl (c_finding (p := 0) (by decide) (by decide) ?_)
    exact go_iret dX3_when_14 rfl (hB h1 _ (Cf.rf 0))

set_option maxHeartbeats 4000000 in
set_option maxRecDepth 100000 in
theorem c_worthWith {S : St} {N : Nat → Nat → Int64} {X : St} {Y : Nat → Int64} {Q : Option Value → AH → Prop} {c s n : Nat} (hw : WF (S 0)) (hc12 : c < 12) (hs : s ≤ 2) (hn : S 0 13 2 + n ≤ 10000) (hO : ∀ S', Cc S S' (S 0) → Q (some (.int (nI (wrt (agN (u2 (S 0) 3 c s) n) c)))) (hp S' N X Y)) : Cn 7 yX3_worthWith cX3_worthWith 4 (some .int) [.ref 0, .int (nI c), .int (nI s), .int (nI n)] (hp S N X Y) Q := by
  refine cn_of (own := RX3) (lo := [some (.ref 0), some (.int (nI c)), some (.int (nI s)), some (.int (nI n))]) 0 rfl (by decide +kernel) rfl (Nat.le_of_ble_eq_true rfl) ?_
  refine go_aloadn0 (q := 1) dX3_worthWith_0 rfl ?_
  refine go_cg (q := 4) dX3_worthWith_1 fl_X3_19 rfl rfl ?_
  refine go_aloadn0 (q := 5) dX3_worthWith_4 rfl ?_
  refine go_cg (q := 8) dX3_worthWith_5 fl_X3_10 rfl rfl ?_
  refine go_im1 (q := 11) dX3_worthWith_8 lk_X3_183 (by decide) (by decide) (Nat.le_of_ble_eq_true rfl) (by decide) rfl (c_become (a := 0) (b := 2) (by decide) (by decide) (by decide) (fun S1 g1 => ?_))
  have hw1 : WF (S1 2) := g1.wf hw
  have e1 := g1.1
  have gg := g1.trial (Or.inl rfl)
  refine go_aloadn0 (q := 12) dX3_worthWith_11 rfl ?_
  refine go_cg (q := 15) dX3_worthWith_12 fl_X3_19 rfl rfl ?_
  refine go_mg (q := 18) dX3_worthWith_15 fl_X3_90 (by decide) rfl rfl ?_
  refine go_iloadn1 (q := 19) dX3_worthWith_18 rfl ?_
  refine go_iloadn2 (q := 20) dX3_worthWith_19 rfl ?_
  refine go_mst (q := 21) dX3_worthWith_20 (by decide) (by decide) hc12 rfl ?_
  have g2 : Ch S1 (u3 S1 2 3 c s) 2 (u2 (S 0) 3 c s) := (Ch.rf.u 3 c s).to (by rw [e1])
  have hw2 : WF (u3 S1 2 3 c s 2) := g2.wf (hw.upd (by omega))
  refine go_aloadn0 (q := 22) dX3_worthWith_21 rfl ?_
  refine go_cg (q := 25) dX3_worthWith_22 fl_X3_19 rfl rfl ?_
  refine go_iloadn3 (q := 26) dX3_worthWith_25 rfl ?_
  refine go_im1 (q := 29) dX3_worthWith_26 lk_X3_187 (by decide) (by decide) (Nat.le_of_ble_eq_true rfl) (by decide) rfl (c_age (by decide) hw2 (by rw [g2.1, u2_nj _ (by decide)]; exact hn) (fun S3 g3 => ?_))
  have e3 : S3 2 = agN (u2 (S 0) 3 c s) n := by rw [g3.1, g2.1]
  have hw3 : WF (S3 2) := by rw [e3]; exact (wf_agN (hw.upd (by omega)) (by rw [u2_nj _ (by decide)]; exact hn)).1
  refine go_aloadn0 (q := 30) dX3_worthWith_29 rfl ?_
  refine go_cg (q := 33) dX3_worthWith_30 fl_X3_19 rfl rfl ?_
  refine go_iloadn1 (q := 34) dX3_worthWith_33 rfl ?_
  refine go_im1 (q := 37) dX3_worthWith_34 lk_X3_93 (by decide) (by decide) (Nat.le_of_ble_eq_true rfl) (by decide) rfl (c_worthOf (by decide) hw3 hc12 ?_)
  rw [e3]
  exact go_iret dX3_worthWith_37 rfl (hO _ ((gg.tr2 (g2.trial (Or.inl rfl))).tr2 (g3.trial (Or.inl rfl))))

set_option maxHeartbeats 4000000 in
set_option maxRecDepth 100000 in
theorem c_best_85 {S : St} {N : Nat → Nat → Int64} {X : St} {Y : Nat → Int64} {Q : Option Value → AH → Prop} {S1 : St} {c n g ch sp : Nat} (hw : WF (S 0)) (hc12 : c < 12) (hn : S 0 13 2 + n ≤ 10000) (gg : Cc S S1 (S 0)) (hg : (if wrt (agN (u2 (S 0) 3 c 0) n) c < wrt (S 0) c then wrt (S 0) c else wrt (agN (u2 (S 0) 3 c 0) n) c) = g) (hg2 : g ≤ 980) (hch : (if wrt (agN (u2 (S 0) 3 c 0) n) c < wrt (S 0) c then 1 else 0) = ch) (hO : ∀ S', Cc S S' (S 0) → Q (some (.int (nI (bestV (wrt (agN (u2 (S 0) 3 c 0) n) c) (wrt (S 0) c) (wrt (agN (u2 (S 0) 3 c 2) n) c) (2 ≤ sea (S 0) ∧ sea (S 0) ≤ 5))))) (hp S' N X Y)) : Go 8 RX3 cX3_best 6 (some .int) 85 [some (.ref 0), some (.int (nI c)), some (.int (nI n)), some (.int (nI g)), some (.int (nI ch)), some (.int (nI sp))] [] (hp S1 N X Y) Q := by
  have e0 := gg.1
  have hw1 : WF (S1 0) := by rw [e0]; exact hw
  have hpl := wrt_le (wf_agN (hw.upd (j := 3) (i := c) (v := 2) (by omega)) (n := n) (by rw [u2_nj _ (by decide)]; exact hn)).1 c
  refine go_aloadn0 (q := 86) dX3_best_85 rfl ?_
  refine go_cg (q := 89) dX3_best_86 fl_X3_10 rfl rfl ?_
  refine go_im0 (q := 92) dX3_best_89 lk_X3_119 (by decide) (by decide) (Nat.le_of_ble_eq_true rfl) (by decide) rfl (c_isPlant (by decide) hw1 ?_)
  rw [e0]
  refine go_ifeqB (tgt := 109) (q := 95) dX3_best_92 (by decide) rfl (fun h1 => ?_) (fun h1 => ?_)
  · skip
    refine go_iload4 (q := 111) dX3_best_109 rfl ?_
    exact go_iretN dX3_best_111 rfl (by unfold bestV; rw [hg, hch, if_neg (fun z => h1 z.1)]) (hO _ gg)
  · skip
    refine go_aloadn0 (q := 96) dX3_best_95 rfl ?_
    refine go_iloadn1 (q := 97) dX3_best_96 rfl ?_
    refine go_iconstN (n := 2) (q := 98) dX3_best_97 rfl ?_
    refine go_iloadn2 (q := 99) dX3_best_98 rfl ?_
    refine go_ic3 (q := 102) dX3_best_99 lk_X3_194 (by decide) (by decide) (Nat.le_of_ble_eq_true rfl) rfl (c_worthWith hw1 hc12 (by decide) (by rw [e0]; exact hn) (fun S2 g2 => ?_))
    rw [e0]
    refine go_iloadn3 (q := 103) dX3_best_102 rfl ?_
    refine go_icmp_leN (tgt := 109) (q := 106) dX3_best_103 (by decide) rfl (by omega) (by omega) (fun h2 => ?_) (fun h2 => ?_)
    · skip
      refine go_iload4 (q := 111) dX3_best_109 rfl ?_
      exact go_iretN dX3_best_111 rfl (by unfold bestV; rw [hg, hch, if_neg (fun z => by have := z.2; omega)]) (hO _ (gg.tr2 g2))
    · skip
      refine go_iconstN (n := 2) (q := 107) dX3_best_106 rfl ?_
      refine go_istore4 (q := 109) dX3_best_107 rfl (by decide) rfl ?_
      refine go_iload4 (q := 111) dX3_best_109 rfl ?_
      exact go_iretN dX3_best_111 rfl (by unfold bestV; rw [hg, hch, if_pos ⟨h1, by omega⟩]) (hO _ (gg.tr2 g2))

set_option maxHeartbeats 4000000 in
set_option maxRecDepth 100000 in
theorem c_best {S : St} {N : Nat → Nat → Int64} {X : St} {Y : Nat → Int64} {Q : Option Value → AH → Prop} {x z : Int32} (hw : WF (S 0)) (hB : ¬ (ic (S 0) x ∧ rg z 1 24) → ∀ S', Cf S S' 0 → Q (some (.int (-1000000001))) (hp S' N X Y)) (hS : ∀ c n, c < S 0 13 0 → 1 ≤ n → n ≤ 24 → x = nI c → z = nI n → ¬ (S 0 3 c = 0 ∧ ¬ 9999 < S 0 13 2 + n) → ∀ S', Cf S S' 4 → Q (some (.int (-1000000005))) (hp S' N X Y)) (hO : ∀ c n, c < S 0 13 0 → 1 ≤ n → n ≤ 24 → x = nI c → z = nI n → S 0 3 c = 0 → ¬ 9999 < S 0 13 2 + n → ∀ S', Cc S S' (S 0) → Q (some (.int (nI (bestV (wrt (agN (u2 (S 0) 3 c 0) n) c) (wrt (S 0) c) (wrt (agN (u2 (S 0) 3 c 2) n) c) (2 ≤ sea (S 0) ∧ sea (S 0) ≤ 5))))) (hp S' N X Y)) : Cn 8 yX3_best cX3_best 6 (some .int) [.ref 0, .int x, .int z] (hp S N X Y) Q := by
  refine cn_of (own := RX3) (lo := [some (.ref 0), some (.int x), some (.int z), none, none, none]) 3 rfl (by decide +kernel) rfl (Nat.le_of_ble_eq_true rfl) ?_
  refine go_aloadn0 (q := 1) dX3_best_0 rfl ?_
  refine go_iloadn1 (q := 2) dX3_best_1 rfl ?_
  refine go_ic1 (q := 5) dX3_best_2 lk_X3_78 (by decide) (by decide) (Nat.le_of_ble_eq_true rfl) rfl (c_isCoin hw ?_)
  refine go_ifeqB (tgt := 18) (q := 8) dX3_best_5 (by decide) rfl (fun h1 => ?_) (fun h1 => ?_)
  · skip
    refine go_aloadn0 (q := 19) dX3_best_18 rfl ?_
    refine go_ldc (q := 21) dX3_best_19 ko_X3_55 rfl ?_
    refine go_ic1 (q := 24) dX3_best_21 lk_X3_56 (by decide) (by decide) (Nat.le_of_ble_eq_true rfl) rfl (c_finding (p := 0) (by decide) (by decide) ?_)
    exact go_iret dX3_best_24 rfl (hB (fun z => h1 z.1) _ (Cf.rf 0))
  · skip
    refine go_iloadn2 (q := 9) dX3_best_8 rfl ?_
    refine go_iconstN (n := 1) (q := 10) dX3_best_9 rfl ?_
    refine go_bipushN (v := 24) (q := 12) dX3_best_10 (by decide) rfl ?_
    refine go_is3_ (q := 15) dX3_best_12 lk_X3_51 (by decide) (by decide) (Nat.le_of_ble_eq_true rfl) rfl (c_isWithin (l := 1) (m := 24) (by decide) (by decide) ?_)
    refine go_ifneB (tgt := 25) (q := 18) dX3_best_15 (by decide) rfl (fun h2 => ?_) (fun h2 => ?_)
    · skip
      obtain ⟨c, hc, hc12, rfl⟩ := ic_nat h1 hw
      obtain ⟨n, hn, rfl, hn1, -⟩ := rg_nat (n := 24) h2 (by omega) (by omega)
      have hst := hw.st c
      refine go_aloadn0 (q := 26) dX3_best_25 rfl ?_
      refine go_cg (q := 29) dX3_best_26 fl_X3_10 rfl rfl ?_
      refine go_mg (q := 32) dX3_best_29 fl_X3_90 (by decide) rfl rfl ?_
      refine go_iloadn1 (q := 33) dX3_best_32 rfl ?_
      refine go_mld (q := 34) dX3_best_33 (by decide) (by decide) hc12 rfl ?_
      refine go_if_neN (tgt := 45) (q := 37) dX3_best_34 (by decide) rfl (by omega) (fun h3 => ?_) (fun h3 => ?_)
      · skip
        refine go_aloadn0 (q := 46) dX3_best_45 rfl ?_
        refine go_ldc (q := 48) dX3_best_46 ko_X3_123 rfl ?_
        refine go_ic1 (q := 51) dX3_best_48 lk_X3_56 (by decide) (by decide) (Nat.le_of_ble_eq_true rfl) rfl (c_finding (p := 4) (by decide) (by decide) ?_)
        exact go_iret dX3_best_51 rfl (hS c n hc (by omega) hn rfl rfl (fun z => h3 z.1) _ (Cf.rf 4))
      · skip
        refine go_aloadn0 (q := 38) dX3_best_37 rfl ?_
        refine go_iloadn2 (q := 39) dX3_best_38 rfl ?_
        refine go_ic1 (q := 42) dX3_best_39 lk_X3_143 (by decide) (by decide) (Nat.le_of_ble_eq_true rfl) rfl (c_past hw (by omega) ?_)
        refine go_ifeqB (tgt := 52) (q := 45) dX3_best_42 (by decide) rfl (fun h4 => ?_) (fun h4 => ?_)
        · skip
          refine go_aloadn0 (q := 53) dX3_best_52 rfl ?_
          refine go_iloadn1 (q := 54) dX3_best_53 rfl ?_
          refine go_iconstN (n := 0) (q := 55) dX3_best_54 rfl ?_
          refine go_iloadn2 (q := 56) dX3_best_55 rfl ?_
          refine go_ic3 (q := 59) dX3_best_56 lk_X3_194 (by decide) (by decide) (Nat.le_of_ble_eq_true rfl) rfl (c_worthWith hw hc12 (by decide) (by omega) (fun S1 gg => ?_))
          have e0 := gg.1
          have hw1 : WF (S1 0) := by rw [e0]; exact hw
          have hk := wrt_le (wf_agN (hw.upd (j := 3) (i := c) (v := 0) (by omega)) (n := n) (by rw [u2_nj _ (by decide)]; omega)).1 c
          have hs := wrt_le hw c
          refine go_istoren3 (q := 60) dX3_best_59 rfl (by decide) rfl ?_
          refine go_iconstN (n := 0) (q := 61) dX3_best_60 rfl ?_
          refine go_istore4 (q := 63) dX3_best_61 rfl (by decide) rfl ?_
          refine go_aloadn0 (q := 64) dX3_best_63 rfl ?_
          refine go_cg (q := 67) dX3_best_64 fl_X3_10 rfl rfl ?_
          refine go_iloadn1 (q := 68) dX3_best_67 rfl ?_
          refine go_im1 (q := 71) dX3_best_68 lk_X3_93 (by decide) (by decide) (Nat.le_of_ble_eq_true rfl) (by decide) rfl (c_worthOf (by decide) hw1 hc12 ?_)
          rw [e0]
          refine go_istore5 (q := 73) dX3_best_71 rfl (by decide) rfl ?_
          refine go_iload5 (q := 75) dX3_best_73 rfl ?_
          refine go_iloadn3 (q := 76) dX3_best_75 rfl ?_
          refine go_icmp_leN (tgt := 85) (q := 79) dX3_best_76 (by decide) rfl (by omega) (by omega) (fun h5 => ?_) (fun h5 => ?_)
          · skip
            exact c_best_85 hw hc12 (by omega) gg (if_neg (by omega)) hk (if_neg (by omega)) (hO c n hc (by omega) hn rfl rfl h3 h4)
          · skip
            refine go_iload5 (q := 81) dX3_best_79 rfl ?_
            refine go_istoren3 (q := 82) dX3_best_81 rfl (by decide) rfl ?_
            refine go_iconstN (n := 1) (q := 83) dX3_best_82 rfl ?_
            refine go_istore4 (q := 85) dX3_best_83 rfl (by decide) rfl ?_
            exact c_best_85 hw hc12 (by omega) gg (if_pos (by omega)) hs (if_pos (by omega)) (hO c n hc (by omega) hn rfl rfl h3 h4)
        · skip
          refine go_aloadn0 (q := 46) dX3_best_45 rfl ?_
          refine go_ldc (q := 48) dX3_best_46 ko_X3_123 rfl ?_
          refine go_ic1 (q := 51) dX3_best_48 lk_X3_56 (by decide) (by decide) (Nat.le_of_ble_eq_true rfl) rfl (c_finding (p := 4) (by decide) (by decide) ?_)
          exact go_iret dX3_best_51 rfl (hS c n hc (by omega) hn rfl rfl (fun z => z.2 h4) _ (Cf.rf 4))
    · skip
      refine go_aloadn0 (q := 19) dX3_best_18 rfl ?_
      refine go_ldc (q := 21) dX3_best_19 ko_X3_55 rfl ?_
      refine go_ic1 (q := 24) dX3_best_21 lk_X3_56 (by decide) (by decide) (Nat.le_of_ble_eq_true rfl) rfl (c_finding (p := 0) (by decide) (by decide) ?_)
      exact go_iret dX3_best_24 rfl (hB (fun z => h2 z.2) _ (Cf.rf 0))

set_option maxHeartbeats 4000000 in
set_option maxRecDepth 100000 in
theorem c_kind_48 {S : St} {N : Nat → Nat → Int64} {X : St} {Y : Nat → Int64} {Q : Option Value → AH → Prop} {c n : Nat} (hw : WF (S 0)) (hc12 : c < 12) (hm : S 0 13 2 + n ≤ 10000) (hO : ∀ S', Cc S S' (S 0) → Q (some (.int (nI (rch (fun kd => wrt (agN (u2 (S 0) 0 c kd) n) c) 5)))) (hp S' N X Y)) : ∀ (fu : Nat) (t a : Nat) (S1 : St), 6 - t < fu → (t ≤ 6) → (rch (fun kd => wrt (agN (u2 (S 0) 0 c kd) n) c) (t - 1) = a) → (Cc S S1 (S 0)) → Go 7 RX3 cX3_kind 7 (some .int) 48 [some (.ref 0), some (.int (nI c)), some (.int (nI n)), some (.int (mI t ((fun kd => wrt (agN (u2 (S 0) 0 c kd) n) c) (rch (fun kd => wrt (agN (u2 (S 0) 0 c kd) n) c) (t - 1))))), some (.int (nI a)), some (.int (nI t)), none] [] (hp S1 N X Y) Q := by
  intro fu
  induction fu with
  | zero => intro t a S1 hfu; exact absurd hfu (Nat.not_lt_zero _)
  | succ fu ih =>
    intro t a S1 hfu ht ha gg
    have e0 := gg.1
    have hw0 : WF (S1 0) := by rw [e0]; exact hw
    have hwk : ∀ kd, kd ≤ 5 → WF (agN (u2 (S 0) 0 c kd) n) := fun kd hkd => (wf_agN (hw.upd (by omega)) (by rw [u2_nj _ (by decide)]; exact hm)).1
    have hle : ∀ kd, kd ≤ 5 → wrt (agN (u2 (S 0) 0 c kd) n) c ≤ 980 := fun kd hkd => wrt_le (hwk kd hkd) c
    have hrl := rch_le (fun kd => wrt (agN (u2 (S 0) 0 c kd) n) c) (t - 1)
    refine go_iload5 (q := 50) dX3_kind_48 rfl ?_
    refine go_bipushN (v := 6) (q := 52) dX3_kind_50 (by decide) rfl ?_
    refine go_icmp_geN (tgt := 114) (q := 55) dX3_kind_52 (by decide) rfl (by omega) (by omega) (fun h4 => ?_) (fun h4 => ?_)
    · skip
      refine go_iload4 (q := 116) dX3_kind_114 rfl ?_
      exact go_iretN dX3_kind_116 rfl (by rw [← ha, show t = 6 by omega]) (hO _ gg)
    · skip
      refine go_aloadn0 (q := 56) dX3_kind_55 rfl ?_
      refine go_cg (q := 59) dX3_kind_56 fl_X3_19 rfl rfl ?_
      refine go_aloadn0 (q := 60) dX3_kind_59 rfl ?_
      refine go_cg (q := 63) dX3_kind_60 fl_X3_10 rfl rfl ?_
      refine go_im1 (q := 66) dX3_kind_63 lk_X3_183 (by decide) (by decide) (Nat.le_of_ble_eq_true rfl) (by decide) rfl (c_become (a := 0) (b := 2) (by decide) (by decide) (by decide) (fun S2 g2 => ?_))
      have e2 : S2 2 = S 0 := by rw [g2.1, e0]
      refine go_aloadn0 (q := 67) dX3_kind_66 rfl ?_
      refine go_cg (q := 70) dX3_kind_67 fl_X3_19 rfl rfl ?_
      refine go_mg (q := 73) dX3_kind_70 fl_X3_81 (by decide) rfl rfl ?_
      refine go_iloadn1 (q := 74) dX3_kind_73 rfl ?_
      refine go_iload5 (q := 76) dX3_kind_74 rfl ?_
      refine go_mst (q := 77) dX3_kind_76 (by decide) (by decide) hc12 rfl ?_
      have g3 : Ch S2 (u3 S2 2 0 c t) 2 (u2 (S 0) 0 c t) := (Ch.rf.u 0 c t).to (by rw [e2])
      have hw3 : WF (u3 S2 2 0 c t 2) := g3.wf (hw.upd (by omega))
      refine go_aloadn0 (q := 78) dX3_kind_77 rfl ?_
      refine go_cg (q := 81) dX3_kind_78 fl_X3_19 rfl rfl ?_
      refine go_iloadn2 (q := 82) dX3_kind_81 rfl ?_
      refine go_im1 (q := 85) dX3_kind_82 lk_X3_187 (by decide) (by decide) (Nat.le_of_ble_eq_true rfl) (by decide) rfl (c_age (by decide) hw3 (by rw [g3.1, u2_nj _ (by decide)]; exact hm) (fun S4 g4 => ?_))
      have e4 : S4 2 = agN (u2 (S 0) 0 c t) n := by rw [g4.1, g3.1]
      have hw4 : WF (S4 2) := by rw [e4]; exact hwk t (by omega)
      have gg4 := ((gg.tr2 (g2.trial (Or.inl rfl))).tr2 (g3.trial (Or.inl rfl))).tr2 (g4.trial (Or.inl rfl))
      refine go_aloadn0 (q := 86) dX3_kind_85 rfl ?_
      refine go_cg (q := 89) dX3_kind_86 fl_X3_19 rfl rfl ?_
      refine go_iloadn1 (q := 90) dX3_kind_89 rfl ?_
      refine go_im1 (q := 93) dX3_kind_90 lk_X3_93 (by decide) (by decide) (Nat.le_of_ble_eq_true rfl) (by decide) rfl (c_worthOf (by decide) hw4 hc12 ?_)
      rw [e4]
      have hiff := mI_le (b := t) (v := (fun kd => wrt (agN (u2 (S 0) 0 c kd) n) c) (rch (fun kd => wrt (agN (u2 (S 0) 0 c kd) n) c) (t - 1))) (w := wrt (agN (u2 (S 0) 0 c t) n) c) (by have := hle t (by omega); omega) (Nat.lt_of_le_of_lt (hle _ (show rch (fun kd => wrt (agN (u2 (S 0) 0 c kd) n) c) (t - 1) ≤ 5 by omega)) (by decide))
      refine go_istore6 (q := 95) dX3_kind_93 rfl (by decide) rfl ?_
      refine go_iload6 (q := 97) dX3_kind_95 rfl ?_
      refine go_iloadn3 (q := 98) dX3_kind_97 rfl ?_
      refine go_icmp_le (tgt := 108) (q := 101) dX3_kind_98 (by decide) rfl (fun h5 => ?_) (fun h5 => ?_)
      · skip
        refine go_iincN5 (n := 1) (q := 111) dX3_kind_108 rfl (by decide) rfl ?_
        refine go_goto (tgt := 48) dX3_kind_111 (by decide) ?_
        have hr : rch (fun kd => wrt (agN (u2 (S 0) 0 c kd) n) c) t = rch (fun kd => wrt (agN (u2 (S 0) 0 c kd) n) c) (t - 1) := rch_n t (hiff.mp h5)
        have ht0 := (hiff.mp h5).1
        refine go_lo (lo' := [some (.ref 0), some (.int (nI c)), some (.int (nI n)), some (.int (mI (t + 1) ((fun kd => wrt (agN (u2 (S 0) 0 c kd) n) c) (rch (fun kd => wrt (agN (u2 (S 0) 0 c kd) n) c) ((t + 1) - 1))))), some (.int (nI a)), some (.int (nI (t + 1))), some (.int (nI (wrt (agN (u2 (S 0) 0 c t) n) c)))]) (by rw [mI_s, Nat.add_sub_cancel, hr, mI, if_neg ht0]) ?_
        refine go_forget (lo' := [some (.ref 0), some (.int (nI c)), some (.int (nI n)), some (.int (mI (t + 1) ((fun kd => wrt (agN (u2 (S 0) 0 c kd) n) c) (rch (fun kd => wrt (agN (u2 (S 0) 0 c kd) n) c) ((t + 1) - 1))))), some (.int (nI a)), some (.int (nI (t + 1))), none]) (fun i v hi => by match i, hi with | 0, h => exact h | 1, h => exact h | 2, h => exact h | 3, h => exact h | 4, h => exact h | 5, h => exact h | 6, h => cases h) ?_
        exact ih (t + 1) a S4 (by omega) (by omega) (by rw [Nat.add_sub_cancel, hr, ha]) gg4
      · skip
        refine go_iload6 (q := 103) dX3_kind_101 rfl ?_
        refine go_istoren3 (q := 104) dX3_kind_103 rfl (by decide) rfl ?_
        refine go_iload5 (q := 106) dX3_kind_104 rfl ?_
        refine go_istore4 (q := 108) dX3_kind_106 rfl (by decide) rfl ?_
        refine go_iincN5 (n := 1) (q := 111) dX3_kind_108 rfl (by decide) rfl ?_
        refine go_goto (tgt := 48) dX3_kind_111 (by decide) ?_
        have hr : rch (fun kd => wrt (agN (u2 (S 0) 0 c kd) n) c) t = t := rch_s t (fun z => h5 (hiff.mpr z))
        refine go_lo (lo' := [some (.ref 0), some (.int (nI c)), some (.int (nI n)), some (.int (mI (t + 1) ((fun kd => wrt (agN (u2 (S 0) 0 c kd) n) c) (rch (fun kd => wrt (agN (u2 (S 0) 0 c kd) n) c) ((t + 1) - 1))))), some (.int (nI t)), some (.int (nI (t + 1))), some (.int (nI (wrt (agN (u2 (S 0) 0 c t) n) c)))]) (by rw [mI_s, Nat.add_sub_cancel, hr]) ?_
        refine go_forget (lo' := [some (.ref 0), some (.int (nI c)), some (.int (nI n)), some (.int (mI (t + 1) ((fun kd => wrt (agN (u2 (S 0) 0 c kd) n) c) (rch (fun kd => wrt (agN (u2 (S 0) 0 c kd) n) c) ((t + 1) - 1))))), some (.int (nI t)), some (.int (nI (t + 1))), none]) (fun i v hi => by match i, hi with | 0, h => exact h | 1, h => exact h | 2, h => exact h | 3, h => exact h | 4, h => exact h | 5, h => exact h | 6, h => cases h) ?_
        exact ih (t + 1) t S4 (by omega) (by omega) (by rw [Nat.add_sub_cancel, hr]) gg4

set_option maxHeartbeats 4000000 in
set_option maxRecDepth 100000 in
theorem c_kind {S : St} {N : Nat → Nat → Int64} {X : St} {Y : Nat → Int64} {Q : Option Value → AH → Prop} {x z : Int32} (hw : WF (S 0)) (hB : ¬ (ic (S 0) x ∧ rg z 1 120) → ∀ S', Cf S S' 0 → Q (some (.int (-1000000001))) (hp S' N X Y)) (hS : ∀ n, 1 ≤ n → n ≤ 120 → z = nI n → ic (S 0) x → 9999 < S 0 13 2 + n → ∀ S', Cf S S' 4 → Q (some (.int (-1000000005))) (hp S' N X Y)) (hO : ∀ c n, c < S 0 13 0 → 1 ≤ n → n ≤ 120 → x = nI c → z = nI n → ¬ 9999 < S 0 13 2 + n → ∀ S', Cc S S' (S 0) → Q (some (.int (nI (rch (fun kd => wrt (agN (u2 (S 0) 0 c kd) n) c) 5)))) (hp S' N X Y)) : Cn 7 yX3_kind cX3_kind 7 (some .int) [.ref 0, .int x, .int z] (hp S N X Y) Q := by
  refine cn_of (own := RX3) (lo := [some (.ref 0), some (.int x), some (.int z), none, none, none, none]) 4 rfl (by decide +kernel) rfl (Nat.le_of_ble_eq_true rfl) ?_
  refine go_aloadn0 (q := 1) dX3_kind_0 rfl ?_
  refine go_iloadn1 (q := 2) dX3_kind_1 rfl ?_
  refine go_ic1 (q := 5) dX3_kind_2 lk_X3_78 (by decide) (by decide) (Nat.le_of_ble_eq_true rfl) rfl (c_isCoin hw ?_)
  refine go_ifeqB (tgt := 18) (q := 8) dX3_kind_5 (by decide) rfl (fun h1 => ?_) (fun h1 => ?_)
  · skip
    refine go_aloadn0 (q := 19) dX3_kind_18 rfl ?_
    refine go_ldc (q := 21) dX3_kind_19 ko_X3_55 rfl ?_
    refine go_ic1 (q := 24) dX3_kind_21 lk_X3_56 (by decide) (by decide) (Nat.le_of_ble_eq_true rfl) rfl (c_finding (p := 0) (by decide) (by decide) ?_)
    exact go_iret dX3_kind_24 rfl (hB (fun z => h1 z.1) _ (Cf.rf 0))
  · skip
    refine go_iloadn2 (q := 9) dX3_kind_8 rfl ?_
    refine go_iconstN (n := 1) (q := 10) dX3_kind_9 rfl ?_
    refine go_bipushN (v := 120) (q := 12) dX3_kind_10 (by decide) rfl ?_
    refine go_is3_ (q := 15) dX3_kind_12 lk_X3_51 (by decide) (by decide) (Nat.le_of_ble_eq_true rfl) rfl (c_isWithin (l := 1) (m := 120) (by decide) (by decide) ?_)
    refine go_ifneB (tgt := 25) (q := 18) dX3_kind_15 (by decide) rfl (fun h2 => ?_) (fun h2 => ?_)
    · skip
      have h10 := h1
      obtain ⟨c, hc, hc12, rfl⟩ := ic_nat h1 hw
      obtain ⟨n, hn, rfl, hn1, -⟩ := rg_nat (n := 120) h2 (by omega) (by omega)
      refine go_aloadn0 (q := 26) dX3_kind_25 rfl ?_
      refine go_iloadn2 (q := 27) dX3_kind_26 rfl ?_
      refine go_ic1 (q := 30) dX3_kind_27 lk_X3_143 (by decide) (by decide) (Nat.le_of_ble_eq_true rfl) rfl (c_past hw (by omega) ?_)
      refine go_ifeqB (tgt := 40) (q := 33) dX3_kind_30 (by decide) rfl (fun h4 => ?_) (fun h4 => ?_)
      · skip
        refine go_iconstV (v := -1) (q := 41) dX3_kind_40 (by decide) rfl ?_
        refine go_istoren3 (q := 42) dX3_kind_41 rfl (by decide) rfl ?_
        refine go_iconstN (n := 0) (q := 43) dX3_kind_42 rfl ?_
        refine go_istore4 (q := 45) dX3_kind_43 rfl (by decide) rfl ?_
        refine go_iconstN (n := 0) (q := 46) dX3_kind_45 rfl ?_
        refine go_istore5 (q := 48) dX3_kind_46 rfl (by decide) rfl ?_
        refine go_lo (lo' := [some (.ref 0), some (.int (nI c)), some (.int (nI n)), some (.int (mI 0 ((fun kd => wrt (agN (u2 (S 0) 0 c kd) n) c) (rch (fun kd => wrt (agN (u2 (S 0) 0 c kd) n) c) (0 - 1))))), some (.int (nI 0)), some (.int (nI 0)), none]) rfl ?_
        exact c_kind_48 hw hc12 (by omega) (hO c n hc (by omega) hn rfl rfl h4) 7 0 0 S (by omega) (by omega) rfl Cc.rf
      · skip
        refine go_aloadn0 (q := 34) dX3_kind_33 rfl ?_
        refine go_ldc (q := 36) dX3_kind_34 ko_X3_123 rfl ?_
        refine go_ic1 (q := 39) dX3_kind_36 lk_X3_56 (by decide) (by decide) (Nat.le_of_ble_eq_true rfl) rfl (c_finding (p := 4) (by decide) (by decide) ?_)
        exact go_iret dX3_kind_39 rfl (hS n (by omega) hn rfl h10 h4 _ (Cf.rf 4))
    · skip
      refine go_aloadn0 (q := 19) dX3_kind_18 rfl ?_
      refine go_ldc (q := 21) dX3_kind_19 ko_X3_55 rfl ?_
      refine go_ic1 (q := 24) dX3_kind_21 lk_X3_56 (by decide) (by decide) (Nat.le_of_ble_eq_true rfl) rfl (c_finding (p := 0) (by decide) (by decide) ?_)
      exact go_iret dX3_kind_24 rfl (hB (fun z => h2 z.2) _ (Cf.rf 0))
