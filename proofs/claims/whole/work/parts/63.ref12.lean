def gO (g : Nat) : Int32 := if g = 0 then -1 else nI (g - 1)
theorem gO_lt {g : Nat} (h : g ≤ 12) : gO g < 0 ↔ g = 0 := by
  unfold gO
  by_cases h0 : g = 0
  · rw [if_pos h0]
    exact ⟨fun _ => h0, fun _ => by decide⟩
  · rw [if_neg h0]
    exact ⟨fun z => absurd z (fun z => nI_pos (by omega) z), fun z => absurd z h0⟩
theorem txd_st {M : Mk} {t i : Nat} (h : ¬ grt (txd M t) t (M 13 0) = 0) (hi : i = grt (txd M t) t (M 13 0) - 1) : u2 (txd M t) 0 i 4 = txd M (t + 1) := by
  subst hi
  conv => rhs; unfold txd
  rw [if_neg h]

set_option maxHeartbeats 4000000 in
set_option maxRecDepth 100000 in
theorem r_tax_58n {S : St} {N : Nat → Nat → Int64} {X : St} {Y : Nat → Int64} {Q : Option Value → AH → Prop} {a t c : Nat} (hY : Go 5 RX4 cX4_tax 6 (some .int) 83 [some (.ref 69), some (.int (nI a)), some (.int (nI t)), some (.int (nI c)), some (.int (nI c)), some (.int (nI 1))] [] (hp S N X Y) Q) : Go 5 RX4 cX4_tax 6 (some .int) 58 [some (.ref 69), some (.int (nI a)), some (.int (nI t)), some (.int (-1)), some (.int (nI c)), some (.int (nI 1))] [] (hp S N X Y) Q := by
  refine go_iloadn3 (q := 59) dX4_tax_58 rfl ?_
  refine go_if_lt (tgt := 76) (q := 62) dX4_tax_59 (by decide) rfl (fun h1 => ?_) (fun h1 => ?_)
  · skip
    refine go_iload4 (q := 78) dX4_tax_76 rfl ?_
    refine go_goto (tgt := 82) dX4_tax_78 (by decide) ?_
    refine go_istoren3 (q := 83) dX4_tax_82 rfl (by decide) rfl ?_
    exact hY
  · skip
    exact absurd (by decide) h1

set_option maxHeartbeats 4000000 in
set_option maxRecDepth 100000 in
theorem r_tax_58s {S : St} {N : Nat → Nat → Int64} {X : St} {Y : Nat → Int64} {Q : Option Value → AH → Prop} {a t c b : Nat} (hw : WF (X 0)) (hc : c < 12) (hb : b < 12) (hY : wrt (X 0) b < wrt (X 0) c → Go 5 RX4 cX4_tax 6 (some .int) 83 [some (.ref 69), some (.int (nI a)), some (.int (nI t)), some (.int (nI c)), some (.int (nI c)), some (.int (nI 1))] [] (hp S N X Y) Q) (hZ : ¬ wrt (X 0) b < wrt (X 0) c → Go 5 RX4 cX4_tax 6 (some .int) 83 [some (.ref 69), some (.int (nI a)), some (.int (nI t)), some (.int (nI b)), some (.int (nI c)), some (.int (nI 1))] [] (hp S N X Y) Q) : Go 5 RX4 cX4_tax 6 (some .int) 58 [some (.ref 69), some (.int (nI a)), some (.int (nI t)), some (.int (nI b)), some (.int (nI c)), some (.int (nI 1))] [] (hp S N X Y) Q := by
  have v1 := wrt_le hw c
  have v2 := wrt_le hw b
  refine go_iloadn3 (q := 59) dX4_tax_58 rfl ?_
  refine go_if_ltN (tgt := 76) (q := 62) dX4_tax_59 (by decide) rfl (by omega) (fun h1 => ?_) (fun h1 => ?_)
  · skip
    exact h1.elim
  · skip
    refine go_aloadn0 (q := 63) dX4_tax_62 rfl ?_
    refine go_iload4 (q := 65) dX4_tax_63 rfl ?_
    refine go_ix1 (q := 68) dX4_tax_65 lk_X4_92 (by decide) (by decide) (Nat.le_of_ble_eq_true rfl) rfl (r_worth hw hc ?_)
    refine go_aloadn0 (q := 69) dX4_tax_68 rfl ?_
    refine go_iloadn3 (q := 70) dX4_tax_69 rfl ?_
    refine go_ix1 (q := 73) dX4_tax_70 lk_X4_92 (by decide) (by decide) (Nat.le_of_ble_eq_true rfl) rfl (r_worth hw hb ?_)
    refine go_icmp_leN (tgt := 81) (q := 76) dX4_tax_73 (by decide) rfl (by omega) (by omega) (fun h2 => ?_) (fun h2 => ?_)
    · skip
      refine go_iloadn3 (q := 82) dX4_tax_81 rfl ?_
      refine go_istoren3 (q := 83) dX4_tax_82 rfl (by decide) rfl ?_
      exact hZ (by omega)
    · skip
      refine go_iload4 (q := 78) dX4_tax_76 rfl ?_
      refine go_goto (tgt := 82) dX4_tax_78 (by decide) ?_
      refine go_istoren3 (q := 83) dX4_tax_82 rfl (by decide) rfl ?_
      exact hY (by omega)

set_option maxHeartbeats 4000000 in
set_option maxRecDepth 100000 in
theorem r_tax_14 {S : St} {N : Nat → Nat → Int64} {X : St} {Y : Nat → Int64} {Q : Option Value → AH → Prop} {a t : Nat} (hw : WF (X 0)) (ht : t < 4) (hK : Go 5 RX4 cX4_tax 6 (some .int) 89 [some (.ref 69), some (.int (nI a)), some (.int (nI t)), some (.int (gO (grt (X 0) t (X 0 13 0)))), none, none] [] (hp S N X Y) Q) : ∀ (fu : Nat) (c g : Nat), X 0 13 0 - c < fu → (c ≤ X 0 13 0) → (grt (X 0) t c = g) → Go 5 RX4 cX4_tax 6 (some .int) 14 [some (.ref 69), some (.int (nI a)), some (.int (nI t)), some (.int (gO g)), some (.int (nI c)), none] [] (hp S N X Y) Q := by
  intro fu
  induction fu with
  | zero => intro c g hfu; exact absurd hfu (Nat.not_lt_zero _)
  | succ fu ih =>
    intro c g hfu hc hg
    have hco := hw.co
    have hgl := grt_le (X 0) t c
    refine go_iload4 (q := 16) dX4_tax_14 rfl ?_
    refine go_aloadn0 (q := 17) dX4_tax_16 rfl ?_
    refine go_xg (q := 20) dX4_tax_17 fl_X4_7 rfl rfl ?_
    refine go_iconstN (n := 0) (q := 21) dX4_tax_20 rfl ?_
    refine go_rld (q := 22) dX4_tax_21 (rr_13 (f := 0) (by decide)) rfl ?_
    refine go_icmp_geN (tgt := 89) (q := 25) dX4_tax_22 (by decide) rfl (by omega) (by omega) (fun h1 => ?_) (fun h1 => ?_)
    · skip
      refine go_forget (lo' := [some (.ref 69), some (.int (nI a)), some (.int (nI t)), some (.int (gO g)), none, none]) (fun i v hi => by match i, hi with | 0, h => exact h | 1, h => exact h | 2, h => exact h | 3, h => exact h | 4, h => cases h | 5, h => cases h) ?_
      rw [← hg, show c = X 0 13 0 by omega]
      exact hK
    · skip
      refine go_aloadn0 (q := 26) dX4_tax_25 rfl ?_
      refine go_iload4 (q := 28) dX4_tax_26 rfl ?_
      refine go_iconstN (n := 1) (q := 29) dX4_tax_28 rfl ?_
      refine go_ix2 (q := 32) dX4_tax_29 lk_X4_84 (by decide) (by decide) (Nat.le_of_ble_eq_true rfl) rfl (r_is (by omega) (by decide) ?_)
      have hown := hw.ow c
      refine go_iloadn2 (q := 33) dX4_tax_32 rfl ?_
      refine go_icmp_neN (tgt := 50) (q := 36) dX4_tax_33 (by decide) rfl (by omega) (by omega) (fun h2 => ?_) (fun h2 => ?_)
      · skip
        refine go_iconstN (n := 0) (q := 51) dX4_tax_50 rfl ?_
        refine go_istore5 (q := 53) dX4_tax_51 rfl (by decide) rfl ?_
        refine go_iload5 (q := 55) dX4_tax_53 rfl ?_
        refine go_if_eqN (tgt := 81) (q := 58) dX4_tax_55 (by decide) rfl (by omega) (fun h9 => ?_) (fun h9 => ?_)
        · skip
          refine go_iloadn3 (q := 82) dX4_tax_81 rfl ?_
          refine go_istoren3 (q := 83) dX4_tax_82 rfl (by decide) rfl ?_
          refine go_iincN4 (n := 1) (q := 86) dX4_tax_83 rfl (by decide) rfl ?_
          refine go_goto (tgt := 14) dX4_tax_86 (by decide) ?_
          refine go_forget (lo' := [some (.ref 69), some (.int (nI a)), some (.int (nI t)), some (.int (gO g)), some (.int (nI (c + 1))), none]) (fun i v hi => by match i, hi with | 0, h => exact h | 1, h => exact h | 2, h => exact h | 3, h => exact h | 4, h => exact h | 5, h => cases h) ?_
          exact ih (c + 1) g (by omega) (by omega) (by unfold grt; rw [hg, if_neg (fun w => h2 w.1.2)])
        · skip
          exact absurd rfl h9
      · skip
        refine go_aloadn0 (q := 37) dX4_tax_36 rfl ?_
        refine go_iload4 (q := 39) dX4_tax_37 rfl ?_
        refine go_iconstN (n := 3) (q := 40) dX4_tax_39 rfl ?_
        refine go_ix2 (q := 43) dX4_tax_40 lk_X4_84 (by decide) (by decide) (Nat.le_of_ble_eq_true rfl) rfl (r_is (by omega) (by decide) ?_)
        have hst := hw.st c
        refine go_if_neN (tgt := 50) (q := 46) dX4_tax_43 (by decide) rfl (by omega) (fun h3 => ?_) (fun h3 => ?_)
        · skip
          refine go_iconstN (n := 0) (q := 51) dX4_tax_50 rfl ?_
          refine go_istore5 (q := 53) dX4_tax_51 rfl (by decide) rfl ?_
          refine go_iload5 (q := 55) dX4_tax_53 rfl ?_
          refine go_if_eqN (tgt := 81) (q := 58) dX4_tax_55 (by decide) rfl (by omega) (fun h9 => ?_) (fun h9 => ?_)
          · skip
            refine go_iloadn3 (q := 82) dX4_tax_81 rfl ?_
            refine go_istoren3 (q := 83) dX4_tax_82 rfl (by decide) rfl ?_
            refine go_iincN4 (n := 1) (q := 86) dX4_tax_83 rfl (by decide) rfl ?_
            refine go_goto (tgt := 14) dX4_tax_86 (by decide) ?_
            refine go_forget (lo' := [some (.ref 69), some (.int (nI a)), some (.int (nI t)), some (.int (gO g)), some (.int (nI (c + 1))), none]) (fun i v hi => by match i, hi with | 0, h => exact h | 1, h => exact h | 2, h => exact h | 3, h => exact h | 4, h => exact h | 5, h => cases h) ?_
            exact ih (c + 1) g (by omega) (by omega) (by unfold grt; rw [hg, if_neg (fun w => h3 w.1.1)])
          · skip
            exact absurd rfl h9
        · skip
          refine go_iconstN (n := 1) (q := 47) dX4_tax_46 rfl ?_
          refine go_goto (tgt := 51) dX4_tax_47 (by decide) ?_
          refine go_istore5 (q := 53) dX4_tax_51 rfl (by decide) rfl ?_
          refine go_iload5 (q := 55) dX4_tax_53 rfl ?_
          refine go_if_eqN (tgt := 81) (q := 58) dX4_tax_55 (by decide) rfl (by omega) (fun h9 => ?_) (fun h9 => ?_)
          · skip
            exact absurd h9 (by decide)
          · skip
            have hY : ∀ g2, grt (X 0) t (c + 1) = g2 → Go 5 RX4 cX4_tax 6 (some .int) 83 [some (.ref 69), some (.int (nI a)), some (.int (nI t)), some (.int (gO g2)), some (.int (nI c)), some (.int (nI 1))] [] (hp S N X Y) Q := fun g2 hg2 => by
              refine go_iincN4 (n := 1) (q := 86) dX4_tax_83 rfl (by decide) rfl ?_
              refine go_goto (tgt := 14) dX4_tax_86 (by decide) ?_
              refine go_forget (lo' := [some (.ref 69), some (.int (nI a)), some (.int (nI t)), some (.int (gO g2)), some (.int (nI (c + 1))), none]) (fun i v hi => by match i, hi with | 0, h => exact h | 1, h => exact h | 2, h => exact h | 3, h => exact h | 4, h => exact h | 5, h => cases h) ?_
              exact ih (c + 1) g2 (by omega) (by omega) hg2
            by_cases hz : g = 0
            · subst hz
              exact r_tax_58n (hY (c + 1) (by unfold grt; rw [hg, if_pos ⟨⟨h3, h2⟩, Or.inl rfl⟩]))
            · have eg : gO g = nI (g - 1) := if_neg hz
              rw [eg]
              exact r_tax_58s hw (by omega) (by omega) (fun hl => hY (c + 1) (by unfold grt; rw [hg, if_pos ⟨⟨h3, h2⟩, Or.inr hl⟩])) (fun hl => by have h := hY g (by unfold grt; rw [hg, if_neg (fun w => w.2.elim hz hl)]); rw [eg] at h; exact h)

set_option maxHeartbeats 4000000 in
set_option maxRecDepth 100000 in
theorem r_tax_4 {S : St} {N : Nat → Nat → Int64} {X : St} {Y : Nat → Int64} {Q : Option Value → AH → Prop} (hw : WF (X 0)) (hO : ∀ X', Xc X X' (txd (X 0) 4) → Q (some (.int (nI (txn (X 0) 4)))) (hp S N X' Y)) : ∀ (fu : Nat) (t a : Nat) (X1 : St), 4 - t < fu → (t ≤ 4) → (txn (X 0) t = a) → (Xc X X1 (txd (X 0) t)) → Go 5 RX4 cX4_tax 6 (some .int) 4 [some (.ref 69), some (.int (nI a)), some (.int (nI t)), none, none, none] [] (hp S N X1 Y) Q := by
  intro fu
  induction fu with
  | zero => intro t a X1 hfu; exact absurd hfu (Nat.not_lt_zero _)
  | succ fu ih =>
    intro t a X1 hfu ht ha g1
    have e1 := g1.1
    have hw1 : WF (X1 0) := by rw [e1]; exact wf_txd hw t
    have e0 : X1 0 13 0 = X 0 13 0 := by rw [e1]; exact txd_at (by decide)
    refine go_iloadn2 (q := 5) dX4_tax_4 rfl ?_
    refine go_iconstN (n := 4) (q := 6) dX4_tax_5 rfl ?_
    refine go_icmp_geN (tgt := 109) (q := 9) dX4_tax_6 (by decide) rfl (by omega) (by omega) (fun h1 => ?_) (fun h1 => ?_)
    · skip
      refine go_iloadn1 (q := 110) dX4_tax_109 rfl ?_
      exact go_iretN dX4_tax_110 rfl (by rw [← ha, show t = 4 by omega]) (hO _ (g1.to (by rw [show t = 4 by omega])))
    · skip
      refine go_iconstV (v := -1) (q := 10) dX4_tax_9 (by decide) rfl ?_
      refine go_istoren3 (q := 11) dX4_tax_10 rfl (by decide) rfl ?_
      refine go_iconstN (n := 0) (q := 12) dX4_tax_11 rfl ?_
      refine go_istore4 (q := 14) dX4_tax_12 rfl (by decide) rfl ?_
      refine r_tax_14 hw1 (by omega) ?_ (X1 0 13 0 + 1) 0 0 (by omega) (by omega) rfl
      have hgl := grt_le (X1 0) t (X1 0 13 0)
      have hco := hw1.co
      refine go_iloadn3 (q := 90) dX4_tax_89 rfl ?_
      refine go_if_lt (tgt := 103) (q := 93) dX4_tax_90 (by decide) rfl (fun h2 => ?_) (fun h2 => ?_)
      · have h0 := (gO_lt (by omega)).mp h2
        refine go_iincN2 (n := 1) (q := 106) dX4_tax_103 rfl (by decide) rfl ?_
        refine go_goto (tgt := 4) dX4_tax_106 (by decide) ?_
        refine go_forget (lo' := [some (.ref 69), some (.int (nI a)), some (.int (nI (t + 1))), none, none, none]) (fun i v hi => by match i, hi with | 0, h => exact h | 1, h => exact h | 2, h => exact h | 3, h => cases h | 4, h => cases h | 5, h => cases h) ?_
        exact ih (t + 1) a X1 (by omega) (by omega) (by unfold txn; rw [if_pos (by rw [← e1, ← e0]; exact h0)]; exact ha) (g1.to (by show txd (X 0) t = txd (X 0) (t + 1); conv => rhs; unfold txd; rw [if_pos (by rw [← e1, ← e0]; exact h0)]))
      · have h0 : ¬ grt (X1 0) t (X1 0 13 0) = 0 := fun w => h2 ((gO_lt (by omega)).mpr w)
        have eg : gO (grt (X1 0) t (X1 0 13 0)) = nI (grt (X1 0) t (X1 0 13 0) - 1) := if_neg h0
        rw [eg]
        refine go_aloadn0 (q := 94) dX4_tax_93 rfl ?_
        refine go_iloadn3 (q := 95) dX4_tax_94 rfl ?_
        refine go_iconstN (n := 0) (q := 96) dX4_tax_95 rfl ?_
        refine go_iconstN (n := 4) (q := 97) dX4_tax_96 rfl ?_
        refine go_ix3 (q := 100) dX4_tax_97 lk_X4_65 (by decide) (by decide) (Nat.le_of_ble_eq_true rfl) rfl (r_puts (by omega) (by decide) ?_)
        refine go_iincN1 (n := 1) (q := 103) dX4_tax_100 rfl (by decide) rfl ?_
        refine go_iincN2 (n := 1) (q := 106) dX4_tax_103 rfl (by decide) rfl ?_
        refine go_goto (tgt := 4) dX4_tax_106 (by decide) ?_
        refine go_forget (lo' := [some (.ref 69), some (.int (nI (a + 1))), some (.int (nI (t + 1))), none, none, none]) (fun i v hi => by match i, hi with | 0, h => exact h | 1, h => exact h | 2, h => exact h | 3, h => cases h | 4, h => cases h | 5, h => cases h) ?_
        exact ih (t + 1) (a + 1) _ (by omega) (by omega) (by unfold txn; rw [if_neg (by rw [← e1, ← e0]; exact h0), ha]) ((g1.u 0 _ 4).to (txd_st (by rw [← e1, ← e0]; exact h0) (by rw [← e1, ← e0])))

set_option maxHeartbeats 4000000 in
set_option maxRecDepth 100000 in
theorem r_tax {S : St} {N : Nat → Nat → Int64} {X : St} {Y : Nat → Int64} {Q : Option Value → AH → Prop} (hw : WF (X 0)) (hO : ∀ X', Xc X X' (txd (X 0) 4) → Q (some (.int (nI (txn (X 0) 4)))) (hp S N X' Y)) : Cn 5 yX4_tax cX4_tax 6 (some .int) [.ref 69] (hp S N X Y) Q := by
  refine cn_of (own := RX4) (lo := [some (.ref 69), none, none, none, none, none]) 5 rfl (by decide +kernel) rfl (Nat.le_of_ble_eq_true rfl) ?_
  refine go_iconstN (n := 0) (q := 1) dX4_tax_0 rfl ?_
  refine go_istoren1 (q := 2) dX4_tax_1 rfl (by decide) rfl ?_
  refine go_iconstN (n := 0) (q := 3) dX4_tax_2 rfl ?_
  refine go_istoren2 (q := 4) dX4_tax_3 rfl (by decide) rfl ?_
  exact r_tax_4 hw hO 5 0 0 X (by omega) (by omega) rfl Xc.rf
