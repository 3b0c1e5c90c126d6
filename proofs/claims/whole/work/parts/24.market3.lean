set_option maxHeartbeats 4000000 in
set_option maxRecDepth 100000 in
theorem c_cheap_0 {S : St} {N : Nat → Nat → Int64} {X : St} {Y : Nat → Int64} {Q : Option Value → AH → Prop} {k v s t b : Nat} (hk : k < 4) (hv : v ≤ 9999) (hs : s + sm (S (10 + k) 11) 0 ≤ 12000) (ht : t + 2 ^ 0 ≤ 4096) (hb : b = 1073741824 ∨ b % 4096 < t) (hb2 : b ≤ 1073741824) (hQ : ∀ r, CR (S (10 + k) 11) 0 v s t b r → Q (some (.int (nI r))) (hp S N X Y)) : Cn 2 yX0_cheapest cX0_cheapest 9 (some .int) [.ref (mr k 11), .ref (mr k 12), .int (nI 0 - nI 1), .int (nI (s * 4096 + t)), .int (nI v), .int (nI b)] (hp S N X Y) Q := by
  have hp := Nat.two_pow_pos 0
  have hss : s ≤ 12000 := by omega
  refine cn_of (own := RX0) (lo := [some (.ref (mr k 11)), some (.ref (mr k 12)), some (.int (nI 0 - nI 1)), some (.int (nI (s * 4096 + t))), some (.int (nI v)), some (.int (nI b)), none, none, none]) 3 rfl (by decide +kernel) rfl (Nat.le_of_ble_eq_true rfl) ?_
  refine go_iloadn3 (q := 1) dX0_cheapest_0 rfl ?_
  refine go_bipushN (v := 12) (q := 3) dX0_cheapest_1 (by decide) rfl ?_
  refine go_ishr (q := 4) dX0_cheapest_3 rfl ?_
  refine go_st (st' := [.int (nI s)]) (by rw [m_shr12 (by omega), show (s * 4096 + t) / 4096 = s by omega]) ?_
  refine go_istore6 (q := 6) dX0_cheapest_4 rfl (by decide) rfl ?_
  refine go_iload6 (q := 8) dX0_cheapest_6 rfl ?_
  refine go_iload4 (q := 10) dX0_cheapest_8 rfl ?_
  refine go_icmp_ltN (tgt := 20) (q := 13) dX0_cheapest_10 (by decide) rfl (by omega) (by omega) (fun h1 => ?_) (fun h1 => ?_)
  · skip
    refine go_iloadn2 (q := 21) dX0_cheapest_20 rfl ?_
    refine go_if_lt (tgt := 51) (q := 24) dX0_cheapest_21 (by decide) rfl (fun h2 => ?_) (fun h2 => ?_)
    · skip
      refine go_iload5 (q := 53) dX0_cheapest_51 rfl ?_
      exact go_iret dX0_cheapest_53 rfl (hQ _ (CR_B h1 hb))
    · skip
      exact absurd (by decide) h2
  · skip
    refine go_iloadn3 (q := 14) dX0_cheapest_13 rfl ?_
    refine go_iload5 (q := 16) dX0_cheapest_14 rfl ?_
    refine go_is2_ (q := 19) dX0_cheapest_16 lk_X0_118 (by omega) (by decide) (Nat.le_of_ble_eq_true rfl) rfl (c_min ?_)
    refine go_st (st' := [.int (nI (min (s * 4096 + t) b))]) (by rw [minN (by omega) (by omega)]) ?_
    exact go_iret dX0_cheapest_19 rfl (hQ _ (CR_A (by omega) ht hb))

set_option maxHeartbeats 4000000 in
set_option maxRecDepth 100000 in
theorem c_cheap_s {S : St} {N : Nat → Nat → Int64} {X : St} {Y : Nat → Int64} {Q : Option Value → AH → Prop} {k v s t b m : Nat} (hm : m < 12) (hr : ∀ c, c ≤ m → S (10 + k) 12 c = sm (S (10 + k) 11) (c + 1)) (ih : ∀ {Q : Option Value → AH → Prop} {s t b : Nat} (hs : s + sm (S (10 + k) 11) m ≤ 12000) (ht : t + 2 ^ m ≤ 4096) (hb : b = 1073741824 ∨ b % 4096 < t) (hb2 : b ≤ 1073741824) (hQ : ∀ r, CR (S (10 + k) 11) m v s t b r → Q (some (.int (nI r))) (hp S N X Y)), Cn (m + 2) yX0_cheapest cX0_cheapest 9 (some .int) [.ref (mr k 11), .ref (mr k 12), .int (nI m - nI 1), .int (nI (s * 4096 + t)), .int (nI v), .int (nI b)] (hp S N X Y) Q) (hk : k < 4) (hv : v ≤ 9999) (hs : s + sm (S (10 + k) 11) (m + 1) ≤ 12000) (ht : t + 2 ^ (m + 1) ≤ 4096) (hb : b = 1073741824 ∨ b % 4096 < t) (hb2 : b ≤ 1073741824) (hQ : ∀ r, CR (S (10 + k) 11) (m + 1) v s t b r → Q (some (.int (nI r))) (hp S N X Y)) : Cn (m + 3) yX0_cheapest cX0_cheapest 9 (some .int) [.ref (mr k 11), .ref (mr k 12), .int (nI m), .int (nI (s * 4096 + t)), .int (nI v), .int (nI b)] (hp S N X Y) Q := by
  have hp := Nat.two_pow_pos m
  rw [Nat.pow_succ] at ht
  have hss : s ≤ 12000 := by omega
  have ht : t + 2 ^ (m + 1) ≤ 4096 := by rw [Nat.pow_succ]; exact ht
  have ht2 : t + 2 ^ m + 2 ^ m ≤ 4096 := by rw [Nat.pow_succ] at ht; omega
  refine cn_of (own := RX0) (lo := [some (.ref (mr k 11)), some (.ref (mr k 12)), some (.int (nI m)), some (.int (nI (s * 4096 + t))), some (.int (nI v)), some (.int (nI b)), none, none, none]) 3 rfl (by decide +kernel) rfl (Nat.le_of_ble_eq_true rfl) ?_
  refine go_iloadn3 (q := 1) dX0_cheapest_0 rfl ?_
  refine go_bipushN (v := 12) (q := 3) dX0_cheapest_1 (by decide) rfl ?_
  refine go_ishr (q := 4) dX0_cheapest_3 rfl ?_
  refine go_st (st' := [.int (nI s)]) (by rw [m_shr12 (by omega), show (s * 4096 + t) / 4096 = s by omega]) ?_
  refine go_istore6 (q := 6) dX0_cheapest_4 rfl (by decide) rfl ?_
  refine go_iload6 (q := 8) dX0_cheapest_6 rfl ?_
  refine go_iload4 (q := 10) dX0_cheapest_8 rfl ?_
  refine go_icmp_ltN (tgt := 20) (q := 13) dX0_cheapest_10 (by decide) rfl (by omega) (by omega) (fun h1 => ?_) (fun h1 => ?_)
  · skip
    refine go_iloadn2 (q := 21) dX0_cheapest_20 rfl ?_
    refine go_if_ltN (tgt := 51) (q := 24) dX0_cheapest_21 (by decide) rfl (by omega) (fun h2 => ?_) (fun h2 => ?_)
    · skip
      exact h2.elim
    · skip
      refine go_iloadn2 (q := 25) dX0_cheapest_24 rfl ?_
      refine go_bipushN (v := 12) (q := 27) dX0_cheapest_25 (by decide) rfl ?_
      refine go_icmp_geN (tgt := 51) (q := 30) dX0_cheapest_27 (by decide) rfl (by omega) (by omega) (fun h3 => ?_) (fun h3 => ?_)
      · skip
        exact absurd h3 (by omega)
      · skip
        refine go_iload6 (q := 32) dX0_cheapest_30 rfl ?_
        refine go_aloadn1 (q := 33) dX0_cheapest_32 rfl ?_
        refine go_iloadn2 (q := 34) dX0_cheapest_33 rfl ?_
        refine go_vld (q := 35) dX0_cheapest_34 hk (by decide) (by omega) rfl ?_
        rw [hr m (by omega)]
        refine go_iaddN (q := 36) dX0_cheapest_35 rfl ?_
        refine go_iload4 (q := 38) dX0_cheapest_36 rfl ?_
        refine go_icmp_ltN (tgt := 51) (q := 41) dX0_cheapest_38 (by decide) rfl (by omega) (by omega) (fun h4 => ?_) (fun h4 => ?_)
        · skip
          refine go_iload5 (q := 53) dX0_cheapest_51 rfl ?_
          exact go_iret dX0_cheapest_53 rfl (hQ _ (CR_C h4 hb))
        · skip
          refine go_iload5 (q := 43) dX0_cheapest_41 rfl ?_
          refine go_bipushN (v := 12) (q := 45) dX0_cheapest_43 (by decide) rfl ?_
          refine go_ishr (q := 46) dX0_cheapest_45 rfl ?_
          refine go_st (st' := [.int (nI (b / 4096))]) (by rw [m_shr12 (by omega)]) ?_
          refine go_iload4 (q := 48) dX0_cheapest_46 rfl ?_
          refine go_icmp_neN (tgt := 54) (q := 51) dX0_cheapest_48 (by decide) rfl (by omega) (by omega) (fun h5 => ?_) (fun h5 => ?_)
          · skip
            refine go_aloadn0 (q := 55) dX0_cheapest_54 rfl ?_
            refine go_aloadn1 (q := 56) dX0_cheapest_55 rfl ?_
            refine go_iloadn2 (q := 57) dX0_cheapest_56 rfl ?_
            refine go_iconstN (n := 1) (q := 58) dX0_cheapest_57 rfl ?_
            refine go_isub (q := 59) dX0_cheapest_58 rfl ?_
            refine go_iloadn3 (q := 60) dX0_cheapest_59 rfl ?_
            refine go_iload4 (q := 62) dX0_cheapest_60 rfl ?_
            refine go_iload5 (q := 64) dX0_cheapest_62 rfl ?_
            refine go_is6_ (q := 67) dX0_cheapest_64 lk_X0_114 (by omega) (by decide) (Nat.le_of_ble_eq_true rfl) rfl (ih (by rw [sm_s] at hs; omega) (by omega) hb hb2 (fun r1 g1 => ?_))
            have g2 := g1.1
            refine go_istore7 (q := 69) dX0_cheapest_67 rfl (by decide) rfl ?_
            refine go_aloadn0 (q := 70) dX0_cheapest_69 rfl ?_
            refine go_iloadn2 (q := 71) dX0_cheapest_70 rfl ?_
            refine go_vld (q := 72) dX0_cheapest_71 hk (by decide) (by omega) rfl ?_
            refine go_if_neN (tgt := 78) (q := 75) dX0_cheapest_72 (by decide) rfl (by rw [sm_s] at hs; omega) (fun h6 => ?_) (fun h6 => ?_)
            · skip
              refine go_iloadn3 (q := 79) dX0_cheapest_78 rfl ?_
              refine go_aloadn0 (q := 80) dX0_cheapest_79 rfl ?_
              refine go_iloadn2 (q := 81) dX0_cheapest_80 rfl ?_
              refine go_vld (q := 82) dX0_cheapest_81 hk (by decide) (by omega) rfl ?_
              refine go_bipushN (v := 12) (q := 84) dX0_cheapest_82 (by decide) rfl ?_
              refine go_ishl (q := 85) dX0_cheapest_84 rfl ?_
              refine go_st (st' := [.int (nI (S (10 + k) 11 m * 4096)), .int (nI (s * 4096 + t))]) (by rw [m_shl12 (by rw [sm_s] at hs; omega)]) ?_
              refine go_iaddN (q := 86) dX0_cheapest_85 rfl ?_
              refine go_iconstN (n := 1) (q := 87) dX0_cheapest_86 rfl ?_
              refine go_iloadn2 (q := 88) dX0_cheapest_87 rfl ?_
              refine go_ishl (q := 89) dX0_cheapest_88 rfl ?_
              refine go_st (st' := [.int (nI (2 ^ m)), .int (nI (s * 4096 + t + S (10 + k) 11 m * 4096))]) (by rw [m_shl (by omega)]) ?_
              refine go_iaddN (q := 90) dX0_cheapest_89 rfl ?_
              refine go_st (st' := [.int (nI ((s + S (10 + k) 11 m) * 4096 + (t + 2 ^ m)))]) (by congr 3; rw [Nat.add_mul]; omega) ?_
              refine go_istore8 (q := 92) dX0_cheapest_90 rfl (by decide) rfl ?_
              refine go_aloadn0 (q := 93) dX0_cheapest_92 rfl ?_
              refine go_aloadn1 (q := 94) dX0_cheapest_93 rfl ?_
              refine go_iloadn2 (q := 95) dX0_cheapest_94 rfl ?_
              refine go_iconstN (n := 1) (q := 96) dX0_cheapest_95 rfl ?_
              refine go_isub (q := 97) dX0_cheapest_96 rfl ?_
              refine go_iload8 (q := 99) dX0_cheapest_97 rfl ?_
              refine go_iload4 (q := 101) dX0_cheapest_99 rfl ?_
              refine go_iload7 (q := 103) dX0_cheapest_101 rfl ?_
              refine go_is6_ (q := 106) dX0_cheapest_103 lk_X0_114 (by omega) (by decide) (Nat.le_of_ble_eq_true rfl) rfl (ih (by rw [sm_s] at hs; omega) (by omega) (g1.2.2.2) (by omega) (fun r2 g3 => ?_))
              exact go_iret dX0_cheapest_106 rfl (hQ _ (CR_E1 g1 g3))
            · skip
              refine go_iload7 (q := 77) dX0_cheapest_75 rfl ?_
              exact go_iret dX0_cheapest_77 rfl (hQ _ (CR_E0 h6 g1))
          · skip
            refine go_iload5 (q := 53) dX0_cheapest_51 rfl ?_
            exact go_iret dX0_cheapest_53 rfl (hQ _ (CR_D h5 hv hb))
  · skip
    refine go_iloadn3 (q := 14) dX0_cheapest_13 rfl ?_
    refine go_iload5 (q := 16) dX0_cheapest_14 rfl ?_
    refine go_is2_ (q := 19) dX0_cheapest_16 lk_X0_118 (by omega) (by decide) (Nat.le_of_ble_eq_true rfl) rfl (c_min ?_)
    refine go_st (st' := [.int (nI (min (s * 4096 + t) b))]) (by rw [minN (by omega) (by omega)]) ?_
    exact go_iret dX0_cheapest_19 rfl (hQ _ (CR_A (by omega) ht hb))

theorem c_cheapest {S : St} {N : Nat → Nat → Int64} {X : St} {Y : Nat → Int64} {k v n : Nat} (hk : k < 4) (hv : v ≤ 9999) (hn : n ≤ 12) (hr : ∀ c, c < n → S (10 + k) 12 c = sm (S (10 + k) 11) (c + 1)) : ∀ {Q : Option Value → AH → Prop} {s t b : Nat} (hs : s + sm (S (10 + k) 11) n ≤ 12000) (ht : t + 2 ^ n ≤ 4096) (hb : b = 1073741824 ∨ b % 4096 < t) (hb2 : b ≤ 1073741824) (hQ : ∀ r, CR (S (10 + k) 11) n v s t b r → Q (some (.int (nI r))) (hp S N X Y)), Cn (n + 2) yX0_cheapest cX0_cheapest 9 (some .int) [.ref (mr k 11), .ref (mr k 12), .int (nI n - nI 1), .int (nI (s * 4096 + t)), .int (nI v), .int (nI b)] (hp S N X Y) Q := by
  induction n with
  | zero => intro Q s t b hs ht hb hb2 hQ; exact c_cheap_0 hk hv hs ht hb hb2 hQ
  | succ m ih =>
    intro Q s t b hs ht hb hb2 hQ
    rw [pk_sub (show 1 ≤ m + 1 by omega), Nat.add_sub_cancel]
    exact c_cheap_s (by omega) (fun c hc => hr c (by omega)) (ih (by omega) (fun c hc => hr c (by omega))) hk hv hs ht hb hb2 hQ

set_option maxHeartbeats 4000000 in
set_option maxRecDepth 100000 in
theorem c_coinsFor_5 {S : St} {N : Nat → Nat → Int64} {X : St} {Y : Nat → Int64} {Q : Option Value → AH → Prop} {k f v : Nat} (hk : k < 4) (hw : WF (S k)) (hf : f < 4) (hv : v ≤ 9999) (hQ : ∀ S', Ch S S' k (S k) → (purse (S k) f < v ∨ ∃ s, IsB (vl (S k) f) (S k 13 0) v s) → Q (some (.int (nI (chs (S k) f v)))) (hp S' N X Y)) : ∀ (fu : Nat) (c a : Nat) (S1 : St), S k 13 0 - c < fu → (c ≤ S k 13 0) → (Ch S S1 k (S k)) → (sm (vl (S k) f) c = a) → (∀ i, i < c → S1 (10 + k) 11 i = vl (S k) f i ∧ S1 (10 + k) 12 i = sm (vl (S k) f) (i + 1)) → Go 15 RX0 cX0_coinsFor 5 (some .int) 5 [some (.ref (mo k)), some (.int (nI f)), some (.int (nI v)), some (.int (nI a)), some (.int (nI c))] [] (hp S1 N X Y) Q := by
  intro fu
  induction fu with
  | zero => intro c a S1 hfu; exact absurd hfu (Nat.not_lt_zero _)
  | succ fu ih =>
    intro c a S1 hfu hc h1 ha h2
    have h3 := hw.co
    have hw1 : WF (S1 k) := h1.wf hw
    have e := h1.1
    have hvl : ∀ i, vl (S k) f i ≤ 980 := fun i => by unfold vl; split; exact wrt_le hw i; omega
    have hsm : ∀ i, i ≤ 12 → sm (vl (S k) f) i ≤ 11760 := fun i hi => Nat.le_trans (sm_le (fun c _ => hvl c)) (Nat.le_trans (Nat.mul_le_mul_right 980 hi) (by decide))
    have h7 := hsm c (by omega)
    rw [ha] at h7
    refine go_iload4 (q := 7) dX0_coinsFor_5 rfl ?_
    refine go_aloadn0 (q := 8) dX0_coinsFor_7 rfl ?_
    refine go_mg (q := 11) dX0_coinsFor_8 fl_X0_51 hk rfl rfl ?_
    rw [e]
    refine go_icmp_geN (tgt := 65) (q := 14) dX0_coinsFor_11 (by decide) rfl (by omega) (by omega) (fun h4 => ?_) (fun h4 => ?_)
    · skip
      refine go_iloadn3 (q := 66) dX0_coinsFor_65 rfl ?_
      refine go_iloadn2 (q := 67) dX0_coinsFor_66 rfl ?_
      refine go_icmp_geN (tgt := 76) (q := 70) dX0_coinsFor_67 (by decide) rfl (by omega) (by omega) (fun h5 => ?_) (fun h5 => ?_)
      · skip
        refine go_aloadn0 (q := 77) dX0_coinsFor_76 rfl ?_
        refine go_mg (q := 80) dX0_coinsFor_77 fl_X0_45 hk rfl rfl ?_
        refine go_aloadn0 (q := 81) dX0_coinsFor_80 rfl ?_
        refine go_mg (q := 84) dX0_coinsFor_81 fl_X0_48 hk rfl rfl ?_
        refine go_aloadn0 (q := 85) dX0_coinsFor_84 rfl ?_
        refine go_mg (q := 88) dX0_coinsFor_85 fl_X0_51 hk rfl rfl ?_
        rw [e]
        refine go_iconstN (n := 1) (q := 89) dX0_coinsFor_88 rfl ?_
        refine go_isub (q := 90) dX0_coinsFor_89 rfl ?_
        refine go_iconstN (n := 0) (q := 91) dX0_coinsFor_90 rfl ?_
        refine go_st (st' := [.int (nI (0 * 4096 + 0)), .int (nI (S k 13 0) - nI 1), .ref (mr k 12), .ref (mr k 11)]) rfl ?_
        refine go_iloadn2 (q := 92) dX0_coinsFor_91 rfl ?_
        refine go_ldc (q := 94) dX0_coinsFor_92 ko_X0_113 rfl ?_
        refine go_st (st' := [.int (nI 1073741824), .int (nI v), .int (nI (0 * 4096 + 0)), .int (nI (S k 13 0) - nI 1), .ref (mr k 12), .ref (mr k 11)]) rfl ?_
        have ec : c = S k 13 0 := by omega
        have hg : ∀ n, n ≤ c → sm (S1 (10 + k) 11) n = sm (vl (S k) f) n := fun n hn => sm_cong (fun i hi => (h2 i (by omega)).1)
        have hgw : ∀ x, wv (S1 (10 + k) 11) c x = wv (vl (S k) f) c x := fun x => sm_cong (fun i hi => by rw [(h2 i hi).1])
        have hp12 : 2 ^ S k 13 0 ≤ 2 ^ 12 := Nat.pow_le_pow_right (by decide) h3
        refine go_is6_ (q := 97) dX0_coinsFor_94 lk_X0_114 (by omega) (by decide) (Nat.le_of_ble_eq_true rfl) rfl (c_cheapest hk hv h3 (fun i hi => by rw [hg (i + 1) (by omega)]; exact (h2 i (by omega)).2) (by rw [← ec, hg c (by omega), ha]; omega) (by omega) (Or.inl rfl) (Nat.le_refl _) (fun r hr => ?_))
        have ht := CR_top h3 (by rw [← ec, hg c (by omega), ha]; omega) (by rw [← ec, hg c (by omega), ha]; omega) hr
        have hB : IsB (vl (S k) f) (S k 13 0) v (r % 4096) := by
            rw [← ec] at ht ⊢
            refine ⟨ht.2.1, by rw [← hgw]; exact ht.2.2.1, fun y hy hvy => ?_⟩
            have := ht.2.2.2 y hy (by rw [hgw]; exact hvy)
            rwa [hgw, hgw] at this
        have hnl : ¬ purse (S k) f < v := by rw [purse_vl, ← ec, ha]; omega
        refine go_sipushN (v := 4095) (q := 100) dX0_coinsFor_97 (by decide) rfl ?_
        refine go_iand (q := 101) dX0_coinsFor_100 rfl ?_
        refine go_st (st' := [.int (nI (r % 4096))]) (by rw [m_4095 ht.1]) ?_
        exact go_iretN dX0_coinsFor_101 rfl (chs_hi hw hnl hB) (hQ _ h1 (Or.inr ⟨_, hB⟩))
      · skip
        refine go_aloadn0 (q := 71) dX0_coinsFor_70 rfl ?_
        refine go_iloadn1 (q := 72) dX0_coinsFor_71 rfl ?_
        refine go_im1 (q := 75) dX0_coinsFor_72 lk_X0_98 (by decide) (by decide) (Nat.le_of_ble_eq_true rfl) hk rfl (c_soundOf hk hw1 (by omega) ?_)
        rw [e]
        have hlt : purse (S k) f < v := by rw [purse_vl, show S k 13 0 = c by omega, ha]; omega
        exact go_iretN dX0_coinsFor_75 rfl (chs_lo hlt) (hQ _ h1 (Or.inl hlt))
    · skip
      refine go_aloadn0 (q := 15) dX0_coinsFor_14 rfl ?_
      refine go_mg (q := 18) dX0_coinsFor_15 fl_X0_45 hk rfl rfl ?_
      refine go_iload4 (q := 20) dX0_coinsFor_18 rfl ?_
      refine go_aloadn0 (q := 21) dX0_coinsFor_20 rfl ?_
      refine go_iload4 (q := 23) dX0_coinsFor_21 rfl ?_
      refine go_iloadn1 (q := 24) dX0_coinsFor_23 rfl ?_
      refine go_im2 (q := 27) dX0_coinsFor_24 lk_X0_91 (by decide) (by decide) (Nat.le_of_ble_eq_true rfl) hk rfl (c_isSoundOf hk hw1 (by omega) (by omega) ?_)
      rw [e]
      refine go_ifeqB (tgt := 39) (q := 30) dX0_coinsFor_27 (by decide) rfl (fun h5 => ?_) (fun h5 => ?_)
      · skip
        refine go_iconstN (n := 0) (q := 40) dX0_coinsFor_39 rfl ?_
        refine go_st (st' := [.int (nI (vl (S k) f c)), .int (nI c), .ref (mr k 11)]) (by rw [vl, if_neg h5]) ?_
        refine go_vst (q := 41) dX0_coinsFor_40 hk (by decide) (by omega) rfl ?_
        refine go_iloadn3 (q := 42) dX0_coinsFor_41 rfl ?_
        refine go_aloadn0 (q := 43) dX0_coinsFor_42 rfl ?_
        refine go_mg (q := 46) dX0_coinsFor_43 fl_X0_45 hk rfl rfl ?_
        refine go_iload4 (q := 48) dX0_coinsFor_46 rfl ?_
        refine go_vld (q := 49) dX0_coinsFor_48 hk (by decide) (by omega) rfl ?_
        rw [u3_s]
        refine go_iaddN (q := 50) dX0_coinsFor_49 rfl ?_
        refine go_istoren3 (q := 51) dX0_coinsFor_50 rfl (by decide) rfl ?_
        refine go_aloadn0 (q := 52) dX0_coinsFor_51 rfl ?_
        refine go_mg (q := 55) dX0_coinsFor_52 fl_X0_48 hk rfl rfl ?_
        refine go_iload4 (q := 57) dX0_coinsFor_55 rfl ?_
        refine go_iloadn3 (q := 58) dX0_coinsFor_57 rfl ?_
        refine go_vst (q := 59) dX0_coinsFor_58 hk (by decide) (by omega) rfl ?_
        refine go_iincN4 (n := 1) (q := 62) dX0_coinsFor_59 rfl (by decide) rfl ?_
        refine go_goto (tgt := 5) dX0_coinsFor_62 (by decide) ?_
        exact ih (c + 1) (a + vl (S k) f c) _ (by omega) (by omega) ((h1.v 11 c _).v 12 c _) (by rw [sm_s, ha]) (fun i hi => by
          by_cases hic : i = c
          · subst hic; rw [u3_nj _ (by omega), u3_s, u3_s, sm_s, ha]; exact ⟨rfl, rfl⟩
          · rw [u3_nj _ (by omega), u3_ni _ hic, u3_ni _ hic, u3_nj _ (by omega)]; exact h2 i (by omega))
      · skip
        refine go_aloadn0 (q := 31) dX0_coinsFor_30 rfl ?_
        refine go_iload4 (q := 33) dX0_coinsFor_31 rfl ?_
        refine go_im1 (q := 36) dX0_coinsFor_33 lk_X0_94 (by decide) (by decide) (Nat.le_of_ble_eq_true rfl) hk rfl (c_worthOf hk hw1 (by omega) ?_)
        rw [e]
        refine go_goto (tgt := 40) dX0_coinsFor_36 (by decide) ?_
        refine go_st (st' := [.int (nI (vl (S k) f c)), .int (nI c), .ref (mr k 11)]) (by rw [vl, if_pos h5]) ?_
        refine go_vst (q := 41) dX0_coinsFor_40 hk (by decide) (by omega) rfl ?_
        refine go_iloadn3 (q := 42) dX0_coinsFor_41 rfl ?_
        refine go_aloadn0 (q := 43) dX0_coinsFor_42 rfl ?_
        refine go_mg (q := 46) dX0_coinsFor_43 fl_X0_45 hk rfl rfl ?_
        refine go_iload4 (q := 48) dX0_coinsFor_46 rfl ?_
        refine go_vld (q := 49) dX0_coinsFor_48 hk (by decide) (by omega) rfl ?_
        rw [u3_s]
        refine go_iaddN (q := 50) dX0_coinsFor_49 rfl ?_
        refine go_istoren3 (q := 51) dX0_coinsFor_50 rfl (by decide) rfl ?_
        refine go_aloadn0 (q := 52) dX0_coinsFor_51 rfl ?_
        refine go_mg (q := 55) dX0_coinsFor_52 fl_X0_48 hk rfl rfl ?_
        refine go_iload4 (q := 57) dX0_coinsFor_55 rfl ?_
        refine go_iloadn3 (q := 58) dX0_coinsFor_57 rfl ?_
        refine go_vst (q := 59) dX0_coinsFor_58 hk (by decide) (by omega) rfl ?_
        refine go_iincN4 (n := 1) (q := 62) dX0_coinsFor_59 rfl (by decide) rfl ?_
        refine go_goto (tgt := 5) dX0_coinsFor_62 (by decide) ?_
        exact ih (c + 1) (a + vl (S k) f c) _ (by omega) (by omega) ((h1.v 11 c _).v 12 c _) (by rw [sm_s, ha]) (fun i hi => by
          by_cases hic : i = c
          · subst hic; rw [u3_nj _ (by omega), u3_s, u3_s, sm_s, ha]; exact ⟨rfl, rfl⟩
          · rw [u3_nj _ (by omega), u3_ni _ hic, u3_ni _ hic, u3_nj _ (by omega)]; exact h2 i (by omega))

set_option maxHeartbeats 4000000 in
set_option maxRecDepth 100000 in
theorem c_coinsFor {S : St} {N : Nat → Nat → Int64} {X : St} {Y : Nat → Int64} {Q : Option Value → AH → Prop} {k f v : Nat} (hk : k < 4) (hw : WF (S k)) (hf : f < 4) (hv : v ≤ 9999) (hQ : ∀ S', Ch S S' k (S k) → (purse (S k) f < v ∨ ∃ s, IsB (vl (S k) f) (S k 13 0) v s) → Q (some (.int (nI (chs (S k) f v)))) (hp S' N X Y)) : Cn 15 yX0_coinsFor cX0_coinsFor 5 (some .int) [.ref (mo k), .int (nI f), .int (nI v)] (hp S N X Y) Q := by
  refine cn_of (own := RX0) (lo := [some (.ref (mo k)), some (.int (nI f)), some (.int (nI v)), none, none]) 2 rfl (by decide +kernel) rfl (Nat.le_of_ble_eq_true rfl) ?_
  refine go_iconstN (n := 0) (q := 1) dX0_coinsFor_0 rfl ?_
  refine go_istoren3 (q := 2) dX0_coinsFor_1 rfl (by decide) rfl ?_
  refine go_iconstN (n := 0) (q := 3) dX0_coinsFor_2 rfl ?_
  refine go_istore4 (q := 5) dX0_coinsFor_3 rfl (by decide) rfl ?_
  exact c_coinsFor_5 hk hw hf hv hQ (S k 13 0 + 1) 0 0 S (by omega) (by omega) Ch.rf rfl (fun i hi => absurd hi (Nat.not_lt_zero i))
