theorem go_lo {d : Nat} {own : String} {cc : ByteArray} {nL : Nat} {ret : Option FieldType} {pc : Nat} {lo lo' : List (Option Value)} {st : List Value} {h : AH} {Q : Option Value → AH → Prop} (he : lo = lo') (kk : Go d own cc nL ret pc lo' st h Q) : Go d own cc nL ret pc lo st h Q := by subst he; exact kk

set_option maxHeartbeats 4000000 in
set_option maxRecDepth 100000 in
theorem c_handOver_32 {S : St} {N : Nat → Nat → Int64} {X : St} {Y : Nat → Int64} {Q : Option Value → AH → Prop} {k f t v : Nat} (hk : k < 4) (hw : WF (S k)) (hf : f < 4) (hv : v ≤ 9999) (h0 : chs (S k) f v < 4096) (hQ : ∀ S', Ch S S' k (payM (S k) f t v) → Q (some (.int (nI (chs (S k) f v)))) (hp S' N X Y)) : ∀ (fu : Nat) (c : Nat) (S1 : St), S k 13 0 - c < fu → (c ≤ S k 13 0) → (Ch S S1 k (payU (S k) (chs (S k) f v) t (S k 13 3 + (v - wset (S k) (chs (S k) f v))) c)) → Go 16 RX0 cX0_handOver 6 (some .int) 32 [some (.ref (mo k)), some (.int (nI f)), some (.int (nI t)), some (.int (nI v)), some (.int (nI (chs (S k) f v))), some (.int (nI c))] [] (hp S1 N X Y) Q := by
  intro fu
  induction fu with
  | zero => intro c S1 hfu; exact absurd hfu (Nat.not_lt_zero _)
  | succ fu ih =>
    intro c S1 hfu hc h1
    have h2 := hw.co
    have e13 : S1 k 13 0 = S k 13 0 := by rw [h1.1]; simp [payU]
    have h5 := bit_01 (chs (S k) f v) c
    refine go_iload5 (q := 34) dX0_handOver_32 rfl ?_
    refine go_aloadn0 (q := 35) dX0_handOver_34 rfl ?_
    refine go_mg (q := 38) dX0_handOver_35 fl_X0_51 hk rfl rfl ?_
    rw [e13]
    refine go_icmp_geN (tgt := 66) (q := 41) dX0_handOver_38 (by decide) rfl (by omega) (by omega) (fun h3 => ?_) (fun h3 => ?_)
    · skip
      refine go_iload4 (q := 68) dX0_handOver_66 rfl ?_
      exact go_iret dX0_handOver_68 rfl (hQ _ (h1.to (by rw [show c = S k 13 0 by omega]; rfl)))
    · skip
      refine go_iload4 (q := 43) dX0_handOver_41 rfl ?_
      refine go_iload5 (q := 45) dX0_handOver_43 rfl ?_
      refine go_ishr (q := 46) dX0_handOver_45 rfl ?_
      refine go_iconstN (n := 1) (q := 47) dX0_handOver_46 rfl ?_
      refine go_iand (q := 48) dX0_handOver_47 rfl ?_
      refine go_st (st' := [.int (nI (bit (chs (S k) f v) c))]) (by rw [m_bit (by omega) (by omega)]) ?_
      refine go_iconstN (n := 1) (q := 49) dX0_handOver_48 rfl ?_
      refine go_icmp_neN (tgt := 60) (q := 52) dX0_handOver_49 (by decide) rfl (by omega) (by omega) (fun h4 => ?_) (fun h4 => ?_)
      · skip
        refine go_iincN5 (n := 1) (q := 63) dX0_handOver_60 rfl (by decide) rfl ?_
        refine go_goto (tgt := 32) dX0_handOver_63 (by decide) ?_
        exact ih (c + 1) S1 (by omega) (by omega) (h1.to (payU_no h4).symm)
      · skip
        refine go_aloadn0 (q := 53) dX0_handOver_52 rfl ?_
        refine go_mg (q := 56) dX0_handOver_53 fl_X0_15 hk rfl rfl ?_
        refine go_iload5 (q := 58) dX0_handOver_56 rfl ?_
        refine go_iloadn2 (q := 59) dX0_handOver_58 rfl ?_
        refine go_mst (q := 60) dX0_handOver_59 hk (by decide) (show c < 12 by omega) rfl ?_
        refine go_iincN5 (n := 1) (q := 63) dX0_handOver_60 rfl (by decide) rfl ?_
        refine go_goto (tgt := 32) dX0_handOver_63 (by decide) ?_
        exact ih (c + 1) _ (by omega) (by omega) ((h1.u 1 c t).to (payU_yes h4).symm)

set_option maxHeartbeats 4000000 in
set_option maxRecDepth 100000 in
theorem c_handOver {S : St} {N : Nat → Nat → Int64} {X : St} {Y : Nat → Int64} {Q : Option Value → AH → Prop} {k f t v : Nat} (hk : k < 4) (hw : WF (S k)) (hf : f < 4) (hv : v ≤ 9999) (hQ : ∀ S', Ch S S' k (payM (S k) f t v) → Q (some (.int (nI (chs (S k) f v)))) (hp S' N X Y)) : Cn 16 yX0_handOver cX0_handOver 6 (some .int) [.ref (mo k), .int (nI f), .int (nI t), .int (nI v)] (hp S N X Y) Q := by
  refine cn_of (own := RX0) (lo := [some (.ref (mo k)), some (.int (nI f)), some (.int (nI t)), some (.int (nI v)), none, none]) 2 rfl (by decide +kernel) rfl (Nat.le_of_ble_eq_true rfl) ?_
  refine go_aloadn0 (q := 1) dX0_handOver_0 rfl ?_
  refine go_iloadn1 (q := 2) dX0_handOver_1 rfl ?_
  refine go_iloadn3 (q := 3) dX0_handOver_2 rfl ?_
  refine go_im2 (q := 6) dX0_handOver_3 lk_X0_110 (by decide) (by decide) (Nat.le_of_ble_eq_true rfl) hk rfl (c_coinsFor hk hw hf hv (fun S1 h1 h2 => ?_))
  have h3 := wset_chs h2 hw
  have e := h1.1
  have hw1 : WF (S1 k) := h1.wf hw
  have hws := wset_le hw (chs (S k) f v)
  refine go_istore4 (q := 8) dX0_handOver_6 rfl (by decide) rfl ?_
  refine go_aloadn0 (q := 9) dX0_handOver_8 rfl ?_
  refine go_dup (q := 10) dX0_handOver_9 rfl rfl ?_
  refine go_mg (q := 13) dX0_handOver_10 fl_X0_61 hk rfl rfl ?_
  rw [e]
  refine go_iconstN (n := 0) (q := 14) dX0_handOver_13 rfl ?_
  refine go_iloadn3 (q := 15) dX0_handOver_14 rfl ?_
  refine go_aloadn0 (q := 16) dX0_handOver_15 rfl ?_
  refine go_iload4 (q := 18) dX0_handOver_16 rfl ?_
  refine go_im1 (q := 21) dX0_handOver_18 lk_X0_101 (by decide) (by decide) (Nat.le_of_ble_eq_true rfl) hk rfl (c_worthOfSet hk hw1 (by omega) ?_)
  rw [e]
  refine go_isub (q := 22) dX0_handOver_21 rfl ?_
  refine go_is2_ (q := 25) dX0_handOver_22 lk_X0_70 (by decide) (by decide) (Nat.le_of_ble_eq_true rfl) rfl (c_max ?_)
  refine go_st (st' := [.int (nI (v - wset (S k) (chs (S k) f v))), .int (nI (S k 13 3)), .ref (mo k)]) (by rw [max_sub2 (by omega) (by omega)]) ?_
  refine go_iaddN (q := 26) dX0_handOver_25 rfl ?_
  refine go_mpf (f := 3) (q := 29) dX0_handOver_26 fp_X0_61 hk (by decide) rfl ?_
  refine go_iconstN (n := 0) (q := 30) dX0_handOver_29 rfl ?_
  refine go_istore5 (q := 32) dX0_handOver_30 rfl (by decide) rfl ?_
  exact c_handOver_32 hk hw hf hv h3.2.2 hQ (S k 13 0 + 1) 0 _ (by omega) (by omega) ((h1.u 13 3 _).to (payU_0 _ _ _ _).symm)

set_option maxHeartbeats 4000000 in
set_option maxRecDepth 100000 in
theorem c_payDue_2 {S : St} {N : Nat → Nat → Int64} {X : St} {Y : Nat → Int64} {Q : Option Value → AH → Prop} {k : Nat} (hk : k < 4) (hw : WF (S k)) (hQ : ∀ S', Ch S S' k (payN (S k) (S k 13 1)) → Q none (hp S' N X Y)) : ∀ (fu : Nat) (c : Nat) (S1 : St), S k 13 1 - c < fu → (c ≤ S k 13 1) → (Ch S S1 k (payN (S k) c)) → Go 17 RX0 cX0_payDue 2 none 2 [some (.ref (mo k)), some (.int (nI c))] [] (hp S1 N X Y) Q := by
  intro fu
  induction fu with
  | zero => intro c S1 hfu; exact absurd hfu (Nat.not_lt_zero _)
  | succ fu ih =>
    intro c S1 hfu hc h1
    have h2 := hw.lo
    have hw1 : WF (S1 k) := h1.wf (wf_payN hw c)
    have e13 : S1 k 13 1 = S k 13 1 := by rw [h1.1, payN_at (by omega)]
    have h9 := hw1.ln c
    have h10 := hw1.mo
    refine go_iloadn1 (q := 3) dX0_payDue_2 rfl ?_
    refine go_aloadn0 (q := 4) dX0_payDue_3 rfl ?_
    refine go_mg (q := 7) dX0_payDue_4 fl_X0_55 hk rfl rfl ?_
    rw [e13]
    refine go_icmp_geN (tgt := 68) (q := 10) dX0_payDue_7 (by decide) rfl (by omega) (by omega) (fun h3 => ?_) (fun h3 => ?_)
    · skip
      exact go_ret0 dX0_payDue_68 rfl (hQ _ (h1.to (by rw [show c = S k 13 1 by omega])))
    · skip
      refine go_aloadn0 (q := 11) dX0_payDue_10 rfl ?_
      refine go_mg (q := 14) dX0_payDue_11 fl_X0_39 hk rfl rfl ?_
      refine go_iloadn1 (q := 15) dX0_payDue_14 rfl ?_
      refine go_mld (q := 16) dX0_payDue_15 hk (by decide) (show c < 8 by omega) rfl ?_
      refine go_aloadn0 (q := 17) dX0_payDue_16 rfl ?_
      refine go_mg (q := 20) dX0_payDue_17 fl_X0_58 hk rfl rfl ?_
      refine go_icmp_neN (tgt := 62) (q := 23) dX0_payDue_20 (by decide) rfl (by omega) (by omega) (fun h4 => ?_) (fun h4 => ?_)
      · skip
        refine go_iincN1 (n := 1) (q := 65) dX0_payDue_62 rfl (by decide) rfl ?_
        refine go_goto (tgt := 2) dX0_payDue_65 (by decide) ?_
        exact ih (c + 1) S1 (by omega) (by omega) (h1.to (by rw [show payN (S k) (c + 1) = payI (payN (S k) c) c from rfl, ← h1.1]; unfold payI; rw [if_neg (by omega)]))
      · skip
        refine go_aloadn0 (q := 24) dX0_payDue_23 rfl ?_
        refine go_mg (q := 27) dX0_payDue_24 fl_X0_42 hk rfl rfl ?_
        refine go_iloadn1 (q := 28) dX0_payDue_27 rfl ?_
        refine go_mld (q := 29) dX0_payDue_28 hk (by decide) (show c < 8 by omega) rfl ?_
        refine go_if_neN (tgt := 62) (q := 32) dX0_payDue_29 (by decide) rfl (by omega) (fun h5 => ?_) (fun h5 => ?_)
        · skip
          refine go_iincN1 (n := 1) (q := 65) dX0_payDue_62 rfl (by decide) rfl ?_
          refine go_goto (tgt := 2) dX0_payDue_65 (by decide) ?_
          exact ih (c + 1) S1 (by omega) (by omega) (h1.to (by rw [show payN (S k) (c + 1) = payI (payN (S k) c) c from rfl, ← h1.1]; unfold payI; rw [if_neg (by omega)]))
        · skip
          refine go_aloadn0 (q := 33) dX0_payDue_32 rfl ?_
          refine go_aloadn0 (q := 34) dX0_payDue_33 rfl ?_
          refine go_mg (q := 37) dX0_payDue_34 fl_X0_30 hk rfl rfl ?_
          refine go_iloadn1 (q := 38) dX0_payDue_37 rfl ?_
          refine go_mld (q := 39) dX0_payDue_38 hk (by decide) (show c < 8 by omega) rfl ?_
          refine go_aloadn0 (q := 40) dX0_payDue_39 rfl ?_
          refine go_mg (q := 43) dX0_payDue_40 fl_X0_33 hk rfl rfl ?_
          refine go_iloadn1 (q := 44) dX0_payDue_43 rfl ?_
          refine go_mld (q := 45) dX0_payDue_44 hk (by decide) (show c < 8 by omega) rfl ?_
          refine go_aloadn0 (q := 46) dX0_payDue_45 rfl ?_
          refine go_mg (q := 49) dX0_payDue_46 fl_X0_36 hk rfl rfl ?_
          refine go_iloadn1 (q := 50) dX0_payDue_49 rfl ?_
          refine go_mld (q := 51) dX0_payDue_50 hk (by decide) (show c < 8 by omega) rfl ?_
          refine go_im3 (q := 54) dX0_payDue_51 lk_X0_121 (by decide) (by decide) (Nat.le_of_ble_eq_true rfl) hk rfl (c_handOver hk hw1 (by omega) h9.2.2.1 (fun S2 h6 => ?_))
          refine go_pop (q := 55) dX0_payDue_54 rfl rfl ?_
          refine go_aloadn0 (q := 56) dX0_payDue_55 rfl ?_
          refine go_mg (q := 59) dX0_payDue_56 fl_X0_42 hk rfl rfl ?_
          refine go_iloadn1 (q := 60) dX0_payDue_59 rfl ?_
          refine go_iconstN (n := 1) (q := 61) dX0_payDue_60 rfl ?_
          refine go_mst (q := 62) dX0_payDue_61 hk (by decide) (show c < 8 by omega) rfl ?_
          refine go_iincN1 (n := 1) (q := 65) dX0_payDue_62 rfl (by decide) rfl ?_
          refine go_goto (tgt := 2) dX0_payDue_65 (by decide) ?_
          exact ih (c + 1) _ (by omega) (by omega) (((h1.tr h6).u 10 c 1).to (by rw [show payN (S k) (c + 1) = payI (payN (S k) c) c from rfl, ← h1.1]; unfold payI; rw [if_pos ⟨h4, h5⟩]))

set_option maxHeartbeats 4000000 in
set_option maxRecDepth 100000 in
theorem c_payDue {S : St} {N : Nat → Nat → Int64} {X : St} {Y : Nat → Int64} {Q : Option Value → AH → Prop} {k : Nat} (hk : k < 4) (hw : WF (S k)) (hQ : ∀ S', Ch S S' k (payN (S k) (S k 13 1)) → Q none (hp S' N X Y)) : Cn 17 yX0_payDue cX0_payDue 2 none [.ref (mo k)] (hp S N X Y) Q := by
  refine cn_of (own := RX0) (lo := [some (.ref (mo k)), none]) 1 rfl (by decide +kernel) rfl (Nat.le_of_ble_eq_true rfl) ?_
  refine go_iconstN (n := 0) (q := 1) dX0_payDue_0 rfl ?_
  refine go_istoren1 (q := 2) dX0_payDue_1 rfl (by decide) rfl ?_
  exact c_payDue_2 hk hw hQ (S k 13 1 + 1) 0 S (by omega) (by omega) Ch.rf

set_option maxHeartbeats 4000000 in
set_option maxRecDepth 100000 in
theorem c_goOn_2 {S : St} {N : Nat → Nat → Int64} {X : St} {Y : Nat → Int64} {Q : Option Value → AH → Prop} {k n0 : Nat} (hk : k < 4) (hw : WF (S k)) (hn : S k 13 2 + n0 ≤ 10000) (hQ : ∀ S', Ch S S' k (monN (S k) n0) → Q none (hp S' N X Y)) : ∀ (fu : Nat) (c : Nat) (S1 : St), n0 - c < fu → (c ≤ n0) → (Ch S S1 k (monN (S k) c)) → Go 18 RX0 cX0_goOn 3 none 2 [some (.ref (mo k)), some (.int (nI n0)), some (.int (nI c))] [] (hp S1 N X Y) Q := by
  intro fu
  induction fu with
  | zero => intro c S1 hfu; exact absurd hfu (Nat.not_lt_zero _)
  | succ fu ih =>
    intro c S1 hfu hc h1
    have h2 := wf_monN hw (n := c) (by omega)
    have hw1 : WF (S1 k) := h1.wf h2.1
    refine go_iloadn2 (q := 3) dX0_goOn_2 rfl ?_
    refine go_iloadn1 (q := 4) dX0_goOn_3 rfl ?_
    refine go_icmp_geN (tgt := 21) (q := 7) dX0_goOn_4 (by decide) rfl (by omega) (by omega) (fun h3 => ?_) (fun h3 => ?_)
    · skip
      exact go_ret0 dX0_goOn_21 rfl (hQ _ (by rw [show n0 = c by omega]; exact h1))
    · skip
      refine go_aloadn0 (q := 8) dX0_goOn_7 rfl ?_
      refine go_im0 (q := 11) dX0_goOn_8 lk_X0_125 (by decide) (by decide) (Nat.le_of_ble_eq_true rfl) hk rfl (c_ageOnce hk hw1 (fun S2 h6 => ?_))
      have hw2 : WF (S2 k) := h6.wf (hw1.age1 (by rw [h1.1, h2.2]; omega))
      refine go_aloadn0 (q := 12) dX0_goOn_11 rfl ?_
      refine go_im0 (q := 15) dX0_goOn_12 lk_X0_128 (by decide) (by decide) (Nat.le_of_ble_eq_true rfl) hk rfl (c_payDue hk hw2 (fun S3 h7 => ?_))
      refine go_iincN2 (n := 1) (q := 18) dX0_goOn_15 rfl (by decide) rfl ?_
      refine go_goto (tgt := 2) dX0_goOn_18 (by decide) ?_
      exact ih (c + 1) S3 (by omega) (by omega) (((h1.tr h6).tr h7).to (by rw [h6.1, (age1_13 _).2.1, h1.1]; rfl))

set_option maxHeartbeats 4000000 in
set_option maxRecDepth 100000 in
theorem c_goOn {S : St} {N : Nat → Nat → Int64} {X : St} {Y : Nat → Int64} {Q : Option Value → AH → Prop} {k n0 : Nat} (hk : k < 4) (hw : WF (S k)) (hn : S k 13 2 + n0 ≤ 10000) (hQ : ∀ S', Ch S S' k (monN (S k) n0) → Q none (hp S' N X Y)) : Cn 18 yX0_goOn cX0_goOn 3 none [.ref (mo k), .int (nI n0)] (hp S N X Y) Q := by
  refine cn_of (own := RX0) (lo := [some (.ref (mo k)), some (.int (nI n0)), none]) 1 rfl (by decide +kernel) rfl (Nat.le_of_ble_eq_true rfl) ?_
  refine go_iconstN (n := 0) (q := 1) dX0_goOn_0 rfl ?_
  refine go_istoren2 (q := 2) dX0_goOn_1 rfl (by decide) rfl ?_
  exact c_goOn_2 hk hw hn hQ (n0 + 1) 0 S (by omega) (by omega) Ch.rf

set_option maxHeartbeats 4000000 in
set_option maxRecDepth 100000 in
theorem c_greatestOf_7 {S : St} {N : Nat → Nat → Int64} {X : St} {Y : Nat → Int64} {Q : Option Value → AH → Prop} {k t : Nat} (hk : k < 4) (hw : WF (S k)) (ht : t < 4) (hQ : Q (some (.int (nI (grt (S k) t (S k 13 0)) - nI 1))) (hp S N X Y)) : ∀ (fu : Nat) (c b : Nat), S k 13 0 - c < fu → (c ≤ S k 13 0) → (grt (S k) t c = b) → Go 3 RX0 cX0_greatestOf 5 (some .int) 7 [some (.ref (mo k)), some (.int (nI t)), some (.int (gwI (S k) b)), some (.int (nI b - nI 1)), some (.int (nI c))] [] (hp S N X Y) Q := by
  intro fu
  induction fu with
  | zero => intro c b hfu; exact absurd hfu (Nat.not_lt_zero _)
  | succ fu ih =>
    intro c b hfu hc hb
    have h2 := hw.co
    have h6 := wrt_le hw c
    refine go_iload4 (q := 9) dX0_greatestOf_7 rfl ?_
    refine go_aloadn0 (q := 10) dX0_greatestOf_9 rfl ?_
    refine go_mg (q := 13) dX0_greatestOf_10 fl_X0_51 hk rfl rfl ?_
    refine go_icmp_geN (tgt := 52) (q := 16) dX0_greatestOf_13 (by decide) rfl (by omega) (by omega) (fun h3 => ?_) (fun h3 => ?_)
    · skip
      refine go_iloadn3 (q := 53) dX0_greatestOf_52 rfl ?_
      exact go_iretE dX0_greatestOf_53 rfl (by rw [← hb, show c = S k 13 0 by omega]) hQ
    · skip
      refine go_aloadn0 (q := 17) dX0_greatestOf_16 rfl ?_
      refine go_iload4 (q := 19) dX0_greatestOf_17 rfl ?_
      refine go_iloadn1 (q := 20) dX0_greatestOf_19 rfl ?_
      refine go_im2 (q := 23) dX0_greatestOf_20 lk_X0_91 (by decide) (by decide) (Nat.le_of_ble_eq_true rfl) hk rfl (c_isSoundOf hk hw (by omega) (by omega) ?_)
      refine go_ifeqB (tgt := 46) (q := 26) dX0_greatestOf_23 (by decide) rfl (fun h4 => ?_) (fun h4 => ?_)
      · skip
        refine go_iincN4 (n := 1) (q := 49) dX0_greatestOf_46 rfl (by decide) rfl ?_
        refine go_goto (tgt := 7) dX0_greatestOf_49 (by decide) ?_
        exact ih (c + 1) b (by omega) (by omega) (by unfold grt; rw [hb, if_neg (fun z => h4 z.1)])
      · skip
        refine go_aloadn0 (q := 27) dX0_greatestOf_26 rfl ?_
        refine go_iload4 (q := 29) dX0_greatestOf_27 rfl ?_
        refine go_im1 (q := 32) dX0_greatestOf_29 lk_X0_94 (by decide) (by decide) (Nat.le_of_ble_eq_true rfl) hk rfl (c_worthOf hk hw (by omega) ?_)
        refine go_iloadn2 (q := 33) dX0_greatestOf_32 rfl ?_
        refine go_icmp_le (tgt := 46) (q := 36) dX0_greatestOf_33 (by decide) rfl (fun h5 => ?_) (fun h5 => ?_)
        · skip
          refine go_iincN4 (n := 1) (q := 49) dX0_greatestOf_46 rfl (by decide) rfl ?_
          refine go_goto (tgt := 7) dX0_greatestOf_49 (by decide) ?_
          exact ih (c + 1) b (by omega) (by omega) (by unfold grt; rw [hb, if_neg (fun z => by have := (gw_le hw h6).mp h5; omega)])
        · skip
          refine go_aloadn0 (q := 37) dX0_greatestOf_36 rfl ?_
          refine go_iload4 (q := 39) dX0_greatestOf_37 rfl ?_
          refine go_im1 (q := 42) dX0_greatestOf_39 lk_X0_94 (by decide) (by decide) (Nat.le_of_ble_eq_true rfl) hk rfl (c_worthOf hk hw (by omega) ?_)
          refine go_istoren2 (q := 43) dX0_greatestOf_42 rfl (by decide) rfl ?_
          refine go_iload4 (q := 45) dX0_greatestOf_43 rfl ?_
          refine go_istoren3 (q := 46) dX0_greatestOf_45 rfl (by decide) rfl ?_
          refine go_iincN4 (n := 1) (q := 49) dX0_greatestOf_46 rfl (by decide) rfl ?_
          refine go_goto (tgt := 7) dX0_greatestOf_49 (by decide) ?_
          have hg : ¬ (b ≠ 0 ∧ wrt (S k) c ≤ wrt (S k) (b - 1)) := fun z => h5 ((gw_le hw h6).mpr z)
          refine go_lo (lo' := [some (.ref (mo k)), some (.int (nI t)), some (.int (gwI (S k) (c + 1))), some (.int (nI (c + 1) - nI 1)), some (.int (nI (c + 1)))]) (by rw [pk_sub (show 1 ≤ c + 1 by omega), Nat.add_sub_cancel]; rfl) ?_
          exact ih (c + 1) (c + 1) (by omega) (by omega) (by unfold grt; rw [hb, if_pos ⟨h4, by omega⟩])

set_option maxHeartbeats 4000000 in
set_option maxRecDepth 100000 in
theorem c_greatestOf {S : St} {N : Nat → Nat → Int64} {X : St} {Y : Nat → Int64} {Q : Option Value → AH → Prop} {k t : Nat} (hk : k < 4) (hw : WF (S k)) (ht : t < 4) (hQ : Q (some (.int (nI (grt (S k) t (S k 13 0)) - nI 1))) (hp S N X Y)) : Cn 3 yX0_greatestOf cX0_greatestOf 5 (some .int) [.ref (mo k), .int (nI t)] (hp S N X Y) Q := by
  refine cn_of (own := RX0) (lo := [some (.ref (mo k)), some (.int (nI t)), none, none, none]) 3 rfl (by decide +kernel) rfl (Nat.le_of_ble_eq_true rfl) ?_
  refine go_iconstV (v := -1) (q := 1) dX0_greatestOf_0 (by decide) rfl ?_
  refine go_istoren2 (q := 2) dX0_greatestOf_1 rfl (by decide) rfl ?_
  refine go_iconstV (v := -1) (q := 3) dX0_greatestOf_2 (by decide) rfl ?_
  refine go_istoren3 (q := 4) dX0_greatestOf_3 rfl (by decide) rfl ?_
  refine go_iconstN (n := 0) (q := 5) dX0_greatestOf_4 rfl ?_
  refine go_istore4 (q := 7) dX0_greatestOf_5 rfl (by decide) rfl ?_
  exact c_greatestOf_7 hk hw ht hQ (S k 13 0 + 1) 0 0 (by omega) (by omega) rfl

set_option maxHeartbeats 4000000 in
set_option maxRecDepth 100000 in
theorem c_boil_4 {S : St} {N : Nat → Nat → Int64} {X : St} {Y : Nat → Int64} {Q : Option Value → AH → Prop} {k : Nat} (hk : k < 4) (hw : WF (S k)) (hQ : ∀ S', Ch S S' k (txd (S k) 4) → Q (some (.int (nI (txn (S k) 4)))) (hp S' N X Y)) : ∀ (fu : Nat) (t a : Nat) (S1 : St), 4 - t < fu → (t ≤ 4) → (txn (S k) t = a) → (Ch S S1 k (txd (S k) t)) → Go 4 RX0 cX0_boilGreatest 4 (some .int) 4 [some (.ref (mo k)), some (.int (nI a)), some (.int (nI t)), none] [] (hp S1 N X Y) Q := by
  intro fu
  induction fu with
  | zero => intro t a S1 hfu; exact absurd hfu (Nat.not_lt_zero _)
  | succ fu ih =>
    intro t a S1 hfu hc ha h1
    have h2 := hw.co
    have hw1 : WF (S1 k) := h1.wf (wf_txd hw t)
    have e := h1.1
    have e13 : S1 k 13 0 = S k 13 0 := by rw [e, txd_at (by omega)]
    have hg := grt_le (txd (S k) t) t (S k 13 0)
    refine go_iloadn2 (q := 5) dX0_boilGreatest_4 rfl ?_
    refine go_iconstN (n := 4) (q := 6) dX0_boilGreatest_5 rfl ?_
    refine go_icmp_geN (tgt := 35) (q := 9) dX0_boilGreatest_6 (by decide) rfl (by omega) (by omega) (fun h3 => ?_) (fun h3 => ?_)
    · skip
      refine go_iloadn1 (q := 36) dX0_boilGreatest_35 rfl ?_
      exact go_iretN dX0_boilGreatest_36 rfl (by rw [← ha, show t = 4 by omega]) (hQ _ (h1.to (by rw [show t = 4 by omega])))
    · skip
      refine go_aloadn0 (q := 10) dX0_boilGreatest_9 rfl ?_
      refine go_iloadn2 (q := 11) dX0_boilGreatest_10 rfl ?_
      refine go_im1 (q := 14) dX0_boilGreatest_11 lk_X0_107 (by decide) (by decide) (Nat.le_of_ble_eq_true rfl) hk rfl (c_greatestOf hk hw1 (by omega) ?_)
      rw [e13, e]
      refine go_istoren3 (q := 15) dX0_boilGreatest_14 rfl (by decide) rfl ?_
      refine go_iloadn3 (q := 16) dX0_boilGreatest_15 rfl ?_
      refine go_if_lt (tgt := 29) (q := 19) dX0_boilGreatest_16 (by decide) rfl (fun h5 => ?_) (fun h5 => ?_)
      · skip
        refine go_iincN2 (n := 1) (q := 32) dX0_boilGreatest_29 rfl (by decide) rfl ?_
        refine go_goto (tgt := 4) dX0_boilGreatest_32 (by decide) ?_
        have hz : grt (txd (S k) t) t (S k 13 0) = 0 := by
          rcases Nat.eq_zero_or_pos (grt (txd (S k) t) t (S k 13 0)) with z | z
          · exact z
          · rw [pk_sub (show 1 ≤ grt (txd (S k) t) t (S k 13 0) from z)] at h5; exact absurd h5 (nI_pos (by omega))
        refine go_forget (lo' := [some (.ref (mo k)), some (.int (nI a)), some (.int (nI (t + 1))), none]) (fun i v hi => by match i, hi with | 0, h => exact h | 1, h => exact h | 2, h => exact h | 3, h => cases h) ?_
        exact ih (t + 1) a S1 (by omega) (by omega) (by unfold txn; rw [ha, if_pos hz]) (h1.to (by rw [show txd (S k) (t + 1) = if grt (txd (S k) t) t (S k 13 0) = 0 then txd (S k) t else u2 (txd (S k) t) 0 (grt (txd (S k) t) t (S k 13 0) - 1) 4 from rfl, if_pos hz]))
      · skip
        have hz : 1 ≤ grt (txd (S k) t) t (S k 13 0) := by
          rcases Nat.eq_zero_or_pos (grt (txd (S k) t) t (S k 13 0)) with z | z
          · rw [z] at h5; exact absurd (by decide) h5
          · exact z
        rw [pk_sub hz]
        refine go_aloadn0 (q := 20) dX0_boilGreatest_19 rfl ?_
        refine go_mg (q := 23) dX0_boilGreatest_20 fl_X0_9 hk rfl rfl ?_
        refine go_iloadn3 (q := 24) dX0_boilGreatest_23 rfl ?_
        refine go_iconstN (n := 4) (q := 25) dX0_boilGreatest_24 rfl ?_
        refine go_mst (q := 26) dX0_boilGreatest_25 hk (by decide) (show _ < 12 by omega) rfl ?_
        refine go_iincN1 (n := 1) (q := 29) dX0_boilGreatest_26 rfl (by decide) rfl ?_
        refine go_iincN2 (n := 1) (q := 32) dX0_boilGreatest_29 rfl (by decide) rfl ?_
        refine go_goto (tgt := 4) dX0_boilGreatest_32 (by decide) ?_
        refine go_forget (lo' := [some (.ref (mo k)), some (.int (nI (a + 1))), some (.int (nI (t + 1))), none]) (fun i v hi => by match i, hi with | 0, h => exact h | 1, h => exact h | 2, h => exact h | 3, h => cases h) ?_
        exact ih (t + 1) (a + 1) _ (by omega) (by omega) (by unfold txn; rw [ha, if_neg (by omega)]) ((h1.u 0 _ 4).to (by rw [show txd (S k) (t + 1) = if grt (txd (S k) t) t (S k 13 0) = 0 then txd (S k) t else u2 (txd (S k) t) 0 (grt (txd (S k) t) t (S k 13 0) - 1) 4 from rfl, if_neg (by omega)]))

set_option maxHeartbeats 4000000 in
set_option maxRecDepth 100000 in
theorem c_boil {S : St} {N : Nat → Nat → Int64} {X : St} {Y : Nat → Int64} {Q : Option Value → AH → Prop} {k : Nat} (hk : k < 4) (hw : WF (S k)) (hQ : ∀ S', Ch S S' k (txd (S k) 4) → Q (some (.int (nI (txn (S k) 4)))) (hp S' N X Y)) : Cn 4 yX0_boilGreatest cX0_boilGreatest 4 (some .int) [.ref (mo k)] (hp S N X Y) Q := by
  refine cn_of (own := RX0) (lo := [some (.ref (mo k)), none, none, none]) 3 rfl (by decide +kernel) rfl (Nat.le_of_ble_eq_true rfl) ?_
  refine go_iconstN (n := 0) (q := 1) dX0_boilGreatest_0 rfl ?_
  refine go_istoren1 (q := 2) dX0_boilGreatest_1 rfl (by decide) rfl ?_
  refine go_iconstN (n := 0) (q := 3) dX0_boilGreatest_2 rfl ?_
  refine go_istoren2 (q := 4) dX0_boilGreatest_3 rfl (by decide) rfl ?_
  exact c_boil_4 hk hw hQ 5 0 0 S (by omega) (by omega) rfl Ch.rf
