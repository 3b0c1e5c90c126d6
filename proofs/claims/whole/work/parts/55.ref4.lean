theorem low_of {t : Nat} (h0 : 0 < t) (ht : t < 4096) : True := trivial
theorem sm0 {u : Nat} (h : u < 1) : u = 0 := by omega
theorem bi0 {M : Mk} {A v : Nat} (hv : 1 ≤ v) : BI M A v 1 none := by
  intro u hu _ hvu
  obtain rfl : u = 0 := by omega
  rw [wset_z] at hvu
  omega
theorem sub_clear {t a c : Nat} (h : sub t a) (hb : bit t c = 1) : sub (t - 2 ^ c) a := by
  have ht : t < 2 ^ t := Nat.lt_two_pow_self
  obtain ⟨-, -, h3⟩ := bit_clear ht hb
  show (t - 2 ^ c) &&& a = t - 2 ^ c
  apply Nat.eq_of_testBit_eq
  intro i
  rw [Nat.testBit_and]
  cases hi : (t - 2 ^ c).testBit i with
  | false => rfl
  | true =>
    have h4 : bit (t - 2 ^ c) i = 1 := (bit_tb _ _).mpr hi
    rw [h3 i] at h4
    by_cases e : i = c
    · rw [if_pos e] at h4; omega
    · rw [if_neg e] at h4
      have := (bit_tb _ _).mp (sub_bit h h4)
      rw [this]
      rfl

set_option maxHeartbeats 4000000 in
set_option maxRecDepth 100000 in
theorem r_findSet_63n {S : St} {N : Nat → Nat → Int64} {X : St} {Y : Nat → Int64} {Q : Option Value → AH → Prop} {f v t : Nat} {X1 : St} (ht : t < 4096) (hv : v < 2 ^ 31) (hw : WF (X 0)) (hs : sub t (sets (X 0) f)) (e : X1 3 2 t = wset (X 0) t) (h : BI (X 0) (sets (X 0) f) v t none) (hK : ∀ ob, BI (X 0) (sets (X 0) f) v (t + 1) ob → Go 4 RX4 cX4_findSet 6 (some .int) 105 [some (.ref 69), some (.int (nI f)), some (.int (nI v)), some (.int (nI (sets (X 0) f))), some (.int (bO ob)), some (.int (nI t))] [] (hp S N X1 Y) Q) : Go 4 RX4 cX4_findSet 6 (some .int) 63 [some (.ref 69), some (.int (nI f)), some (.int (nI v)), some (.int (nI (sets (X 0) f))), some (.int (-1)), some (.int (nI t))] [] (hp S N X1 Y) Q := by
  have hl := wset_le hw t
  refine go_aloadn0 (q := 64) dX4_findSet_63 rfl ?_
  refine go_xg (q := 67) dX4_findSet_64 fl_X4_35 rfl rfl ?_
  refine go_iload5 (q := 69) dX4_findSet_67 rfl ?_
  refine go_xsld (q := 70) dX4_findSet_69 ht rfl ?_
  rw [e]
  refine go_iloadn2 (q := 71) dX4_findSet_70 rfl ?_
  refine go_icmp_ltN (tgt := 101) (q := 74) dX4_findSet_71 (by decide) rfl (by omega) (by omega) (fun h1 => ?_) (fun h1 => ?_)
  · skip
    refine go_iload4 (q := 103) dX4_findSet_101 rfl ?_
    refine go_istore4 (q := 105) dX4_findSet_103 rfl (by decide) rfl ?_
    exact hK none (h.skip (Or.inr (by omega)))
  · skip
    refine go_iload4 (q := 76) dX4_findSet_74 rfl ?_
    refine go_if_lt (tgt := 96) (q := 79) dX4_findSet_76 (by decide) rfl (fun h2 => ?_) (fun h2 => ?_)
    · skip
      refine go_iload5 (q := 98) dX4_findSet_96 rfl ?_
      refine go_goto (tgt := 103) dX4_findSet_98 (by decide) ?_
      refine go_istore4 (q := 105) dX4_findSet_103 rfl (by decide) rfl ?_
      exact hK (some t) (h.first hs (by omega))
    · skip
      exact absurd (by decide) h2

set_option maxHeartbeats 4000000 in
set_option maxRecDepth 100000 in
theorem r_findSet_63s {S : St} {N : Nat → Nat → Int64} {X : St} {Y : Nat → Int64} {Q : Option Value → AH → Prop} {f v t : Nat} {X1 : St} (ht : t < 4096) (hv : v < 2 ^ 31) (hw : WF (X 0)) (hs : sub t (sets (X 0) f)) (e : X1 3 2 t = wset (X 0) t) {b : Nat} (h : BI (X 0) (sets (X 0) f) v t (some b)) (eb : X1 3 2 b = wset (X 0) b) (hK : ∀ ob, BI (X 0) (sets (X 0) f) v (t + 1) ob → Go 4 RX4 cX4_findSet 6 (some .int) 105 [some (.ref 69), some (.int (nI f)), some (.int (nI v)), some (.int (nI (sets (X 0) f))), some (.int (bO ob)), some (.int (nI t))] [] (hp S N X1 Y) Q) : Go 4 RX4 cX4_findSet 6 (some .int) 63 [some (.ref 69), some (.int (nI f)), some (.int (nI v)), some (.int (nI (sets (X 0) f))), some (.int (nI b)), some (.int (nI t))] [] (hp S N X1 Y) Q := by
  have hl := wset_le hw t
  have hl2 := wset_le hw b
  have hbt := h.1
  refine go_aloadn0 (q := 64) dX4_findSet_63 rfl ?_
  refine go_xg (q := 67) dX4_findSet_64 fl_X4_35 rfl rfl ?_
  refine go_iload5 (q := 69) dX4_findSet_67 rfl ?_
  refine go_xsld (q := 70) dX4_findSet_69 ht rfl ?_
  rw [e]
  refine go_iloadn2 (q := 71) dX4_findSet_70 rfl ?_
  refine go_icmp_ltN (tgt := 101) (q := 74) dX4_findSet_71 (by decide) rfl (by omega) (by omega) (fun h1 => ?_) (fun h1 => ?_)
  · skip
    refine go_iload4 (q := 103) dX4_findSet_101 rfl ?_
    refine go_istore4 (q := 105) dX4_findSet_103 rfl (by decide) rfl ?_
    exact hK (some b) (h.skip (Or.inr (by omega)))
  · skip
    refine go_iload4 (q := 76) dX4_findSet_74 rfl ?_
    refine go_if_ltN (tgt := 96) (q := 79) dX4_findSet_76 (by decide) rfl (by omega) (fun h2 => ?_) (fun h2 => ?_)
    · skip
      exact h2.elim
    · skip
      refine go_aloadn0 (q := 80) dX4_findSet_79 rfl ?_
      refine go_xg (q := 83) dX4_findSet_80 fl_X4_35 rfl rfl ?_
      refine go_iload5 (q := 85) dX4_findSet_83 rfl ?_
      refine go_xsld (q := 86) dX4_findSet_85 ht rfl ?_
      rw [e]
      refine go_aloadn0 (q := 87) dX4_findSet_86 rfl ?_
      refine go_xg (q := 90) dX4_findSet_87 fl_X4_35 rfl rfl ?_
      refine go_iload4 (q := 92) dX4_findSet_90 rfl ?_
      refine go_xsld (q := 93) dX4_findSet_92 (by omega) rfl ?_
      rw [eb]
      refine go_icmp_geN (tgt := 101) (q := 96) dX4_findSet_93 (by decide) rfl (by omega) (by omega) (fun h3 => ?_) (fun h3 => ?_)
      · skip
        refine go_iload4 (q := 103) dX4_findSet_101 rfl ?_
        refine go_istore4 (q := 105) dX4_findSet_103 rfl (by decide) rfl ?_
        exact hK (some b) (h.keep h3)
      · skip
        refine go_iload5 (q := 98) dX4_findSet_96 rfl ?_
        refine go_goto (tgt := 103) dX4_findSet_98 (by decide) ?_
        refine go_istore4 (q := 105) dX4_findSet_103 rfl (by decide) rfl ?_
        exact hK (some t) (h.less ht hs (by omega) (by omega))

set_option maxHeartbeats 4000000 in
set_option maxRecDepth 100000 in
theorem r_findSet_111 {X : St} {Q : Option Value → AH → Prop} {f v t : Nat} {ob : Option Nat} {H1 : AH} (hob : ∀ b, ob = some b → b < 4096) (e : chs (X 0) f v = ob.getD (sets (X 0) f)) (hQ : Q (some (.int (nI (chs (X 0) f v)))) H1) : Go 4 RX4 cX4_findSet 6 (some .int) 111 [some (.ref 69), some (.int (nI f)), some (.int (nI v)), some (.int (nI (sets (X 0) f))), some (.int (bO ob)), some (.int (nI t))] [] H1 Q := by
  rcases ob with _ | b
  · refine go_iload4 (q := 113) dX4_findSet_111 rfl ?_
    refine go_if_ge (tgt := 120) (q := 116) dX4_findSet_113 (by decide) rfl (fun z => absurd z (by decide)) (fun _ => ?_)
    refine go_iloadn3 (q := 117) dX4_findSet_116 rfl ?_
    refine go_goto (tgt := 122) dX4_findSet_117 (by decide) ?_
    exact go_iretN dX4_findSet_122 rfl e hQ
  · have hb := hob b rfl
    refine go_iload4 (q := 113) dX4_findSet_111 rfl ?_
    refine go_if_geN (x := b) (tgt := 120) (q := 116) dX4_findSet_113 (by decide) rfl (by omega) (fun _ => ?_) (fun z => absurd trivial z)
    refine go_iload4 (q := 122) dX4_findSet_120 rfl ?_
    exact go_iretN dX4_findSet_122 rfl e hQ

set_option maxHeartbeats 4000000 in
set_option maxRecDepth 100000 in
theorem r_findSet_19 {S : St} {N : Nat → Nat → Int64} {X : St} {Y : Nat → Int64} {Q : Option Value → AH → Prop} {f v : Nat} (hw : WF (X 0)) (hf : f ≤ 3) (hv1 : 1 ≤ v) (hv : v ≤ 9999) (hO : ∀ X', Xc X X' (X 0) → X' 3 2 (chs (X 0) f v) = wset (X 0) (chs (X 0) f v) → chs (X 0) f v < 4096 → (purse (X 0) f < v ∨ ∃ s, IsB (vl (X 0) f) (X 0 13 0) v s) → Q (some (.int (nI (chs (X 0) f v)))) (hp S N X' Y)) : ∀ (fu : Nat) (t : Nat) (ob : Option Nat) (X1 : St), sets (X 0) f + 1 - t < fu → (1 ≤ t) → (t ≤ sets (X 0) f + 1) → (Xc X X1 (X 0)) → (∀ u, u < t → sub u (sets (X 0) f) → X1 3 2 u = wset (X 0) u) → (BI (X 0) (sets (X 0) f) v t ob) → Go 4 RX4 cX4_findSet 6 (some .int) 19 [some (.ref 69), some (.int (nI f)), some (.int (nI v)), some (.int (nI (sets (X 0) f))), some (.int (bO ob)), some (.int (nI t))] [] (hp S N X1 Y) Q := by
  intro fu
  induction fu with
  | zero => intro t ob X1 hfu; exact absurd hfu (Nat.not_lt_zero _)
  | succ fu ih =>
    intro t ob X1 hfu ht1 ht g hsum h
    have hA : sets (X 0) f < 2 ^ X 0 13 0 := setS_lt _ _
    have h12 : 2 ^ X 0 13 0 ≤ 2 ^ 12 := Nat.pow_le_pow_right (by decide) hw.co
    have hA2 : sets (X 0) f < 4096 := Nat.lt_of_lt_of_le hA h12
    refine go_iload5 (q := 21) dX4_findSet_19 rfl ?_
    refine go_iloadn3 (q := 22) dX4_findSet_21 rfl ?_
    refine go_icmp_gtN (tgt := 111) (q := 25) dX4_findSet_22 (by decide) rfl (by omega) (by omega) (fun h1 => ?_) (fun h1 => ?_)
    · skip
      have hb := BI.chs (ob := ob) hw hv1 (by rw [show sets (X 0) f + 1 = t by omega]; exact h)
      exact r_findSet_111 (t := t) (fun b e => by subst e; have := h.1; omega) hb.1 (hO X1 g (hsum _ (by omega) hb.2.2.2) (by omega) hb.2.1)
    · skip
      refine go_iload5 (q := 27) dX4_findSet_25 rfl ?_
      refine go_iloadn3 (q := 28) dX4_findSet_27 rfl ?_
      refine go_iconstV (v := -1) (q := 29) dX4_findSet_28 (by decide) rfl ?_
      refine go_ixor (q := 30) dX4_findSet_29 rfl ?_
      refine go_iand (q := 31) dX4_findSet_30 rfl ?_
      refine go_if_ne (tgt := 105) (q := 34) dX4_findSet_31 (by decide) rfl (fun h2 => ?_) (fun h2 => ?_)
      · skip
        refine go_iincN5 (n := 1) (q := 108) dX4_findSet_105 rfl (by decide) rfl ?_
        refine go_goto (tgt := 19) dX4_findSet_108 (by decide) ?_
        have hns : ¬ sub t (sets (X 0) f) := fun z => h2 ((m_sub (by omega) hA2).mpr z)
        exact ih (t + 1) ob X1 (by omega) (by omega) (by omega) g (fun u hu hs => hsum u (by rcases Nat.lt_or_ge u t with z | z; exact z; exact absurd (by rw [show t = u by omega]; exact hs) hns) hs) (h.skip (Or.inl hns))
      · skip
        have hs : sub t (sets (X 0) f) := (m_sub (by omega) hA2).mp h2
        have hlow := low_of (by omega : 0 < t) (by omega : t < 4096)
        refine go_aloadn0 (q := 35) dX4_findSet_34 rfl ?_
        refine go_xg (q := 38) dX4_findSet_35 fl_X4_35 rfl rfl ?_
        refine go_iload5 (q := 40) dX4_findSet_38 rfl ?_
        refine go_aloadn0 (q := 41) dX4_findSet_40 rfl ?_
        refine go_xg (q := 44) dX4_findSet_41 fl_X4_35 rfl rfl ?_
        refine go_iload5 (q := 46) dX4_findSet_44 rfl ?_
        refine go_iload5 (q := 48) dX4_findSet_46 rfl ?_
        refine go_iconstN (n := 1) (q := 49) dX4_findSet_48 rfl ?_
        refine go_isubN (q := 50) dX4_findSet_49 ht1 rfl ?_
        refine go_iand (q := 51) dX4_findSet_50 rfl ?_
        refine go_st (st' := [.int (nI (t &&& (t - 1))), .ref 78, .int (nI t), .ref 78]) (by rw [nI_and]) ?_
        refine go_xsld (q := 52) dX4_findSet_51 (Nat.lt_of_le_of_lt Nat.and_le_left (by omega)) rfl ?_
        refine go_aloadn0 (q := 53) dX4_findSet_52 rfl ?_
        refine go_iload5 (q := 55) dX4_findSet_53 rfl ?_
        refine go_is1_ (q := 58) dX4_findSet_55 lk_X4_131 (by decide) (by decide) (Nat.le_of_ble_eq_true rfl) rfl (r_lowest (by omega) (by omega) (fun c hc hb hz => ?_))
        have hland := land_pred c t hb hz
        have hp2 := Nat.two_pow_pos c
        have hcl := bit_clear (n := X 0 13 0) (by omega) hb
        have hsu : sub (t &&& (t - 1)) (sets (X 0) f) := by rw [hland]; exact sub_clear hs hb
        rw [hsum _ (by rw [hland]; omega) hsu, hland]
        have hwX : WF (X1 0) := by rw [g.1]; exact hw
        refine go_ix1 (q := 61) dX4_findSet_58 lk_X4_92 (by decide) (by decide) (Nat.le_of_ble_eq_true rfl) rfl (r_worth hwX hc ?_)
        rw [g.1]
        refine go_iaddN (q := 62) dX4_findSet_61 rfl ?_
        refine go_xsst (q := 63) dX4_findSet_62 (show t < 4096 by omega) rfl ?_
        have g2 := g.v (Or.inl rfl : 2 = 2 ∨ 2 = 3) t (wset (X 0) (t - 2 ^ c) + wrt (X 0) c)
        have ew := wset_low (M := X 0) (by omega : t < 2 ^ X 0 13 0) hb
        have hall : ∀ u, u < t + 1 → sub u (sets (X 0) f) → u3 X1 3 2 t (wset (X 0) (t - 2 ^ c) + wrt (X 0) c) 3 2 u = wset (X 0) u := fun u hu hsb => by
          by_cases e : u = t
          · rw [e, u3_s, ← ew]
          · rw [u3_ni _ e]; exact hsum u (by omega) hsb
        have hK : ∀ ob2, BI (X 0) (sets (X 0) f) v (t + 1) ob2 → Go 4 RX4 cX4_findSet 6 (some .int) 105 [some (.ref 69), some (.int (nI f)), some (.int (nI v)), some (.int (nI (sets (X 0) f))), some (.int (bO ob2)), some (.int (nI t))] [] (hp S N (u3 X1 3 2 t (wset (X 0) (t - 2 ^ c) + wrt (X 0) c)) Y) Q := fun ob2 hob2 => by
          refine go_iincN5 (n := 1) (q := 108) dX4_findSet_105 rfl (by decide) rfl ?_
          refine go_goto (tgt := 19) dX4_findSet_108 (by decide) ?_
          exact ih (t + 1) ob2 _ (by omega) (by omega) (by omega) g2 hall hob2
        rcases ob with _ | b
        · exact r_findSet_63n (by omega) (by omega) hw hs (hall t (by omega) hs) h hK
        · exact r_findSet_63s (by omega) (by omega) hw hs (hall t (by omega) hs) h (hall b (by have := h.1; omega) h.2.1) hK

set_option maxHeartbeats 4000000 in
set_option maxRecDepth 100000 in
theorem r_findSet {S : St} {N : Nat → Nat → Int64} {X : St} {Y : Nat → Int64} {Q : Option Value → AH → Prop} {f v : Nat} (hw : WF (X 0)) (hf : f ≤ 3) (hv1 : 1 ≤ v) (hv : v ≤ 9999) (hO : ∀ X', Xc X X' (X 0) → X' 3 2 (chs (X 0) f v) = wset (X 0) (chs (X 0) f v) → chs (X 0) f v < 4096 → (purse (X 0) f < v ∨ ∃ s, IsB (vl (X 0) f) (X 0 13 0) v s) → Q (some (.int (nI (chs (X 0) f v)))) (hp S N X' Y)) : Cn 4 yX4_findSet cX4_findSet 6 (some .int) [.ref 69, .int (nI f), .int (nI v)] (hp S N X Y) Q := by
  refine cn_of (own := RX4) (lo := [some (.ref 69), some (.int (nI f)), some (.int (nI v)), none, none, none]) 3 rfl (by decide +kernel) rfl (Nat.le_of_ble_eq_true rfl) ?_
  refine go_aloadn0 (q := 1) dX4_findSet_0 rfl ?_
  refine go_iloadn1 (q := 2) dX4_findSet_1 rfl ?_
  refine go_ix1 (q := 5) dX4_findSet_2 lk_X4_128 (by decide) (by decide) (Nat.le_of_ble_eq_true rfl) rfl (r_soundOf hw (by omega) ?_)
  refine go_istoren3 (q := 6) dX4_findSet_5 rfl (by decide) rfl ?_
  refine go_iconstV (v := -1) (q := 7) dX4_findSet_6 (by decide) rfl ?_
  refine go_istore4 (q := 9) dX4_findSet_7 rfl (by decide) rfl ?_
  refine go_aloadn0 (q := 10) dX4_findSet_9 rfl ?_
  refine go_xg (q := 13) dX4_findSet_10 fl_X4_35 rfl rfl ?_
  refine go_iconstN (n := 0) (q := 14) dX4_findSet_13 rfl ?_
  refine go_iconstN (n := 0) (q := 15) dX4_findSet_14 rfl ?_
  refine go_xsst (q := 16) dX4_findSet_15 (by decide) rfl ?_
  refine go_iconstN (n := 1) (q := 17) dX4_findSet_16 rfl ?_
  refine go_istore5 (q := 19) dX4_findSet_17 rfl (by decide) rfl ?_
  exact r_findSet_19 hw hf hv1 hv hO (sets (X 0) f + 1) 1 none _ (by omega) (by omega) (by omega) (Xc.rf.v (Or.inl rfl) 0 0) (fun u hu _ => (sm0 hu).symm ▸ (by rw [u3_s, wset_z])) (bi0 hv1)
