def rtt (M : Mk) (d : Nat) : Nat := if 0 < d ∧ d - 1 < M 13 0 ∧ M 3 (d - 1) = 1 then 1 else 0
theorem rtt_s (M : Mk) (d : Nat) : rtt M d < 2 ^ 31 := by unfold rtt; split <;> decide
theorem rtt_l {M : Mk} {c : Nat} (h : ¬ rtt M c = 0) : besd M c := Decidable.byContradiction fun z => h (if_neg (fun w => z (Or.inl w)))
theorem rtt_r {M : Mk} {c : Nat} (h : ¬ rtt M (c + 2) = 0) : besd M c := Decidable.byContradiction fun z => h (if_neg (fun w => z (Or.inr ⟨by have := w.2.1; omega, w.2.2⟩)))
theorem rtt_n {M : Mk} {c : Nat} (h : rtt M c = 0) (h2 : rtt M (c + 2) = 0) : ¬ besd M c := by
  intro z
  rcases z with w | w
  · unfold rtt at h
    rw [if_pos w] at h
    omega
  · unfold rtt at h2
    rw [if_pos ⟨by omega, by have := w.1; omega, w.2⟩] at h2
    omega
theorem rtt_st {M : Mk} {X1 : St} {c v : Nat} (h : ∀ d, d < c → X1 3 3 d = rtt M d) (hv : v = rtt M c) : ∀ d, d < c + 1 → u3 X1 3 3 c v 3 3 d = rtt M d := by
  intro d hd
  by_cases e : d = c
  · rw [e, u3_s, hv]
  · rw [u3_ni _ e]
    exact h d (by omega)
theorem ic_pred {M : Mk} {c : Nat} (hn : M 13 0 ≤ 12) (hc : c ≤ 14) : ic M (nI c - nI 1) ↔ 0 < c ∧ c - 1 < M 13 0 := by
  have h : (nI c - nI 1).toInt = (c : Int) - 1 := pk_sub_toInt (by omega) (by decide)
  unfold ic rg
  rw [h]
  omega
theorem sub_cs {a b : Nat} (ha : a ≤ 99) (hb : b ≤ 99) : (¬ (0 : Int32) ≤ nI a - nI b → a - b = 0) ∧ ((0 : Int32) ≤ nI a - nI b → nI a - nI b = nI (a - b)) ∧ (nI a - nI b ≤ 0 ↔ a - b = 0) := by
  have h : (nI a - nI b).toInt = (a : Int) - b := pk_sub_toInt (by omega) (by omega)
  have h0 : (0 : Int32).toInt = 0 := by decide
  refine ⟨fun z => ?_, fun z => ?_, ?_⟩
  · rw [Int32.le_iff_toInt_le, h, h0] at z; omega
  · rw [Int32.le_iff_toInt_le, h, h0] at z
    apply Int32.toInt_inj.mp
    rw [h, nI_toInt (by omega)]
    omega
  · rw [Int32.le_iff_toInt_le, h, h0]; omega

set_option maxHeartbeats 4000000 in
set_option maxRecDepth 100000 in
theorem r_goesOn_134t {S : St} {N : Nat → Nat → Int64} {X : St} {Y : Nat → Int64} {Q : Option Value → AH → Prop} {c : Nat} {X1 : St} (hw : WF (X 0)) (hc : c < X 0 13 0) (h0 : X 0 3 c = 0) (hr : (∀ d, d < 14 → X1 3 3 d = rtt (X 0) d)) {x : Int32} (hx : x ≤ 0 ↔ (X 0 2 c - shr (X 0 0 c) (sea (X 0))) = 0) (hT : (besd (X 0) c ∧ ¬ blue (X 0 0 c))) (g : Xc X X1 (u2 (agUp (X 0) c) 2 c (agSz (X 0) c))) (hK : ∀ X2, Xc X X2 (agUp (X 0) (c + 1)) → (∀ d, d < 14 → X2 3 3 d = rtt (X 0) d) → Go 8 RX4 cX4_goesOn 4 none 221 [some (.ref 69), some (.int (nI c)), none, none] [] (hp S N X2 Y) Q) : Go 8 RX4 cX4_goesOn 4 none 134 [some (.ref 69), some (.int (nI c)), some (.int x), some (.int (nI 1))] [] (hp S N X1 Y) Q := by
  have hst : agSt (X 0) c = if agSz (X 0) c = 0 ∨ (besd (X 0) c ∧ ¬ blue (X 0 0 c)) then 1 else 0 := by unfold agSt; rw [if_pos h0]
  have hsz : agSz (X 0) c = (X 0 2 c - shr (X 0 0 c) (sea (X 0))) := by unfold agSz; rw [if_pos h0]
  have hco := hw.co
  refine go_aloadn0 (q := 135) dX4_goesOn_134 rfl ?_
  refine go_iloadn1 (q := 136) dX4_goesOn_135 rfl ?_
  refine go_iconstN (n := 3) (q := 137) dX4_goesOn_136 rfl ?_
  refine go_iloadn2 (q := 138) dX4_goesOn_137 rfl ?_
  refine go_if_le (tgt := 145) (q := 141) dX4_goesOn_138 (by decide) rfl (fun h1 => ?_) (fun h1 => ?_)
  · skip
    refine go_iconstN (n := 1) (q := 146) dX4_goesOn_145 rfl ?_
    refine go_goto (tgt := 150) dX4_goesOn_146 (by decide) ?_
    refine go_ix3 (q := 153) dX4_goesOn_150 lk_X4_65 (by decide) (by decide) (Nat.le_of_ble_eq_true rfl) rfl (r_puts (by omega) (by decide) ?_)
    refine go_goto (tgt := 221) dX4_goesOn_153 (by decide) ?_
    refine go_forget (lo' := [some (.ref 69), some (.int (nI c)), none, none]) (fun i v hi => by match i, hi with | 0, h => exact h | 1, h => exact h | 2, h => cases h | 3, h => cases h) ?_
    exact hK _ ((g.u 3 c 1).to (by rw [agUp_s, show agSt (X 0) c = 1 from by rw [hst, if_pos (Or.inl (by rw [hsz]; exact hx.mp h1))]])) (fun d hd => by rw [u3_oth _ (by decide)]; exact hr d hd)
  · skip
    refine go_iloadn3 (q := 142) dX4_goesOn_141 rfl ?_
    refine go_if_eqN (tgt := 149) (q := 145) dX4_goesOn_142 (by decide) rfl (by omega) (fun h2 => ?_) (fun h2 => ?_)
    · skip
      exact absurd h2 (by decide)
    · skip
      refine go_iconstN (n := 1) (q := 146) dX4_goesOn_145 rfl ?_
      refine go_goto (tgt := 150) dX4_goesOn_146 (by decide) ?_
      refine go_ix3 (q := 153) dX4_goesOn_150 lk_X4_65 (by decide) (by decide) (Nat.le_of_ble_eq_true rfl) rfl (r_puts (by omega) (by decide) ?_)
      refine go_goto (tgt := 221) dX4_goesOn_153 (by decide) ?_
      refine go_forget (lo' := [some (.ref 69), some (.int (nI c)), none, none]) (fun i v hi => by match i, hi with | 0, h => exact h | 1, h => exact h | 2, h => cases h | 3, h => cases h) ?_
      exact hK _ ((g.u 3 c 1).to (by rw [agUp_s, show agSt (X 0) c = 1 from by rw [hst, if_pos (Or.inr hT)]])) (fun d hd => by rw [u3_oth _ (by decide)]; exact hr d hd)

set_option maxHeartbeats 4000000 in
set_option maxRecDepth 100000 in
theorem r_goesOn_134f {S : St} {N : Nat → Nat → Int64} {X : St} {Y : Nat → Int64} {Q : Option Value → AH → Prop} {c : Nat} {X1 : St} (hw : WF (X 0)) (hc : c < X 0 13 0) (h0 : X 0 3 c = 0) (hr : (∀ d, d < 14 → X1 3 3 d = rtt (X 0) d)) {x : Int32} (hx : x ≤ 0 ↔ (X 0 2 c - shr (X 0 0 c) (sea (X 0))) = 0) (hT : ¬ (besd (X 0) c ∧ ¬ blue (X 0 0 c))) (g : Xc X X1 (u2 (agUp (X 0) c) 2 c (agSz (X 0) c))) (hK : ∀ X2, Xc X X2 (agUp (X 0) (c + 1)) → (∀ d, d < 14 → X2 3 3 d = rtt (X 0) d) → Go 8 RX4 cX4_goesOn 4 none 221 [some (.ref 69), some (.int (nI c)), none, none] [] (hp S N X2 Y) Q) : Go 8 RX4 cX4_goesOn 4 none 134 [some (.ref 69), some (.int (nI c)), some (.int x), some (.int (nI 0))] [] (hp S N X1 Y) Q := by
  have hst : agSt (X 0) c = if agSz (X 0) c = 0 ∨ (besd (X 0) c ∧ ¬ blue (X 0 0 c)) then 1 else 0 := by unfold agSt; rw [if_pos h0]
  have hsz : agSz (X 0) c = (X 0 2 c - shr (X 0 0 c) (sea (X 0))) := by unfold agSz; rw [if_pos h0]
  have hco := hw.co
  refine go_aloadn0 (q := 135) dX4_goesOn_134 rfl ?_
  refine go_iloadn1 (q := 136) dX4_goesOn_135 rfl ?_
  refine go_iconstN (n := 3) (q := 137) dX4_goesOn_136 rfl ?_
  refine go_iloadn2 (q := 138) dX4_goesOn_137 rfl ?_
  refine go_if_le (tgt := 145) (q := 141) dX4_goesOn_138 (by decide) rfl (fun h1 => ?_) (fun h1 => ?_)
  · skip
    refine go_iconstN (n := 1) (q := 146) dX4_goesOn_145 rfl ?_
    refine go_goto (tgt := 150) dX4_goesOn_146 (by decide) ?_
    refine go_ix3 (q := 153) dX4_goesOn_150 lk_X4_65 (by decide) (by decide) (Nat.le_of_ble_eq_true rfl) rfl (r_puts (by omega) (by decide) ?_)
    refine go_goto (tgt := 221) dX4_goesOn_153 (by decide) ?_
    refine go_forget (lo' := [some (.ref 69), some (.int (nI c)), none, none]) (fun i v hi => by match i, hi with | 0, h => exact h | 1, h => exact h | 2, h => cases h | 3, h => cases h) ?_
    exact hK _ ((g.u 3 c 1).to (by rw [agUp_s, show agSt (X 0) c = 1 from by rw [hst, if_pos (Or.inl (by rw [hsz]; exact hx.mp h1))]])) (fun d hd => by rw [u3_oth _ (by decide)]; exact hr d hd)
  · skip
    refine go_iloadn3 (q := 142) dX4_goesOn_141 rfl ?_
    refine go_if_eqN (tgt := 149) (q := 145) dX4_goesOn_142 (by decide) rfl (by omega) (fun h2 => ?_) (fun h2 => ?_)
    · skip
      refine go_iconstN (n := 0) (q := 150) dX4_goesOn_149 rfl ?_
      refine go_ix3 (q := 153) dX4_goesOn_150 lk_X4_65 (by decide) (by decide) (Nat.le_of_ble_eq_true rfl) rfl (r_puts (by omega) (by decide) ?_)
      refine go_goto (tgt := 221) dX4_goesOn_153 (by decide) ?_
      refine go_forget (lo' := [some (.ref 69), some (.int (nI c)), none, none]) (fun i v hi => by match i, hi with | 0, h => exact h | 1, h => exact h | 2, h => cases h | 3, h => cases h) ?_
      exact hK _ ((g.u 3 c 0).to (by rw [agUp_s, show agSt (X 0) c = 0 from by rw [hst, if_neg (fun w => w.elim (fun y => h1 (hx.mpr (by rw [← hsz]; exact y))) hT)]])) (fun d hd => by rw [u3_oth _ (by decide)]; exact hr d hd)
    · skip
      exact absurd rfl h2

set_option maxHeartbeats 4000000 in
set_option maxRecDepth 100000 in
theorem r_goesOn_96 {S : St} {N : Nat → Nat → Int64} {X : St} {Y : Nat → Int64} {Q : Option Value → AH → Prop} {c : Nat} {X1 : St} (hw : WF (X 0)) (hc : c < X 0 13 0) (h0 : X 0 3 c = 0) (hr : (∀ d, d < 14 → X1 3 3 d = rtt (X 0) d)) {x : Int32} (hx : x ≤ 0 ↔ (X 0 2 c - shr (X 0 0 c) (sea (X 0))) = 0) (g : Xc X X1 (u2 (agUp (X 0) c) 2 c (agSz (X 0) c))) (hK : ∀ X2, Xc X X2 (agUp (X 0) (c + 1)) → (∀ d, d < 14 → X2 3 3 d = rtt (X 0) d) → Go 8 RX4 cX4_goesOn 4 none 221 [some (.ref 69), some (.int (nI c)), none, none] [] (hp S N X2 Y) Q) : Go 8 RX4 cX4_goesOn 4 none 96 [some (.ref 69), some (.int (nI c)), some (.int x), none] [] (hp S N X1 Y) Q := by
  have hco := hw.co
  have ek : X1 0 0 c = X 0 0 c := by rw [g.1]; show agUp (X 0) c 0 c = X 0 0 c; exact agUp_at (Or.inl ⟨by decide, by decide⟩)
  have hk5 := hw.kd c
  refine go_aloadn0 (q := 97) dX4_goesOn_96 rfl ?_
  refine go_iloadn1 (q := 98) dX4_goesOn_97 rfl ?_
  refine go_iconstN (n := 0) (q := 99) dX4_goesOn_98 rfl ?_
  refine go_ix2 (q := 102) dX4_goesOn_99 lk_X4_84 (by decide) (by decide) (Nat.le_of_ble_eq_true rfl) rfl (r_is (by omega) (by decide) ?_)
  rw [ek]
  refine go_is1_ (q := 105) dX4_goesOn_102 lk_X4_101 (by decide) (by decide) (Nat.le_of_ble_eq_true rfl) rfl (r_isBlue hk5 ?_)
  refine go_ifneB (tgt := 132) (q := 108) dX4_goesOn_105 (by decide) rfl (fun h1 => ?_) (fun h1 => ?_)
  · skip
    refine go_iconstN (n := 0) (q := 133) dX4_goesOn_132 rfl ?_
    refine go_istoren3 (q := 134) dX4_goesOn_133 rfl (by decide) rfl ?_
    exact r_goesOn_134f hw hc h0 hr hx (fun w => w.2 h1) g hK
  · skip
    refine go_aloadn0 (q := 109) dX4_goesOn_108 rfl ?_
    refine go_xg (q := 112) dX4_goesOn_109 fl_X4_38 rfl rfl ?_
    refine go_iloadn1 (q := 113) dX4_goesOn_112 rfl ?_
    refine go_xrld (q := 114) dX4_goesOn_113 (by omega) rfl ?_
    rw [hr c (by omega)]
    refine go_if_neN (tgt := 128) (q := 117) dX4_goesOn_114 (by decide) rfl (rtt_s _ _) (fun h2 => ?_) (fun h2 => ?_)
    · skip
      refine go_iconstN (n := 1) (q := 129) dX4_goesOn_128 rfl ?_
      refine go_goto (tgt := 133) dX4_goesOn_129 (by decide) ?_
      refine go_istoren3 (q := 134) dX4_goesOn_133 rfl (by decide) rfl ?_
      exact r_goesOn_134t hw hc h0 hr hx ⟨rtt_l h2, h1⟩ g hK
    · skip
      refine go_aloadn0 (q := 118) dX4_goesOn_117 rfl ?_
      refine go_xg (q := 121) dX4_goesOn_118 fl_X4_38 rfl rfl ?_
      refine go_iloadn1 (q := 122) dX4_goesOn_121 rfl ?_
      refine go_iconstN (n := 2) (q := 123) dX4_goesOn_122 rfl ?_
      refine go_iaddN (q := 124) dX4_goesOn_123 rfl ?_
      refine go_xrld (q := 125) dX4_goesOn_124 (by omega) rfl ?_
      rw [hr (c + 2) (by omega)]
      refine go_if_eqN (tgt := 132) (q := 128) dX4_goesOn_125 (by decide) rfl (rtt_s _ _) (fun h3 => ?_) (fun h3 => ?_)
      · skip
        refine go_iconstN (n := 0) (q := 133) dX4_goesOn_132 rfl ?_
        refine go_istoren3 (q := 134) dX4_goesOn_133 rfl (by decide) rfl ?_
        exact r_goesOn_134f hw hc h0 hr hx (fun w => (rtt_n h2 h3) w.1) g hK
      · skip
        refine go_iconstN (n := 1) (q := 129) dX4_goesOn_128 rfl ?_
        refine go_goto (tgt := 133) dX4_goesOn_129 (by decide) ?_
        refine go_istoren3 (q := 134) dX4_goesOn_133 rfl (by decide) rfl ?_
        exact r_goesOn_134t hw hc h0 hr hx ⟨rtt_r h3, h1⟩ g hK

set_option maxHeartbeats 4000000 in
set_option maxRecDepth 100000 in
theorem r_goesOn_221 {h : AH} {Q : Option Value → AH → Prop} {c : Nat} (k : Go 8 RX4 cX4_goesOn 4 none 49 [some (.ref 69), some (.int (nI (c + 1))), none, none] [] h Q) : Go 8 RX4 cX4_goesOn 4 none 221 [some (.ref 69), some (.int (nI c)), none, none] [] h Q := by
  refine go_iincN1 (n := 1) (q := 224) dX4_goesOn_221 rfl (by decide) rfl ?_
  refine go_goto (tgt := 49) dX4_goesOn_224 (by decide) ?_
  exact k

set_option maxHeartbeats 4000000 in
set_option maxRecDepth 100000 in
theorem r_goesOn_49 {S : St} {N : Nat → Nat → Int64} {X : St} {Y : Nat → Int64} {Q : Option Value → AH → Prop} (hw : WF (X 0)) (hO : ∀ X1, Xc X X1 (agUp (X 0) (X 0 13 0)) → Go 8 RX4 cX4_goesOn 4 none 227 [some (.ref 69), none, none, none] [] (hp S N X1 Y) Q) : ∀ (fu : Nat) (c : Nat) (X1 : St), X 0 13 0 - c < fu → (c ≤ X 0 13 0) → (Xc X X1 (agUp (X 0) c)) → ((∀ d, d < 14 → X1 3 3 d = rtt (X 0) d)) → Go 8 RX4 cX4_goesOn 4 none 49 [some (.ref 69), some (.int (nI c)), none, none] [] (hp S N X1 Y) Q := by
  intro fu
  induction fu with
  | zero => intro c X1 hfu; exact absurd hfu (Nat.not_lt_zero _)
  | succ fu ih =>
    intro c X1 hfu hc g hr
    have hco := hw.co
    have e0 : X1 0 13 0 = X 0 13 0 := by rw [g.1]; exact agUp_at (Or.inl ⟨by decide, by decide⟩)
    have e3 : X1 0 3 c = X 0 3 c := by rw [g.1]; exact agUp_at (Or.inr (Nat.le_refl _))
    have e2 : X1 0 2 c = X 0 2 c := by rw [g.1]; exact agUp_at (Or.inr (Nat.le_refl _))
    have ek : X1 0 0 c = X 0 0 c := by rw [g.1]; exact agUp_at (Or.inl ⟨by decide, by decide⟩)
    have eo : X1 0 1 c = X 0 1 c := by rw [g.1]; exact agUp_at (Or.inl ⟨by decide, by decide⟩)
    have e4 : X1 0 4 (X 0 1 c) = X 0 4 (X 0 1 c) := by rw [g.1]; exact agUp_at (Or.inl ⟨by decide, by decide⟩)
    have es : sea (X1 0) = sea (X 0) := by unfold sea; rw [g.1, agUp_at (Or.inl ⟨by decide, by decide⟩)]
    have hw1 : WF (X1 0) := by rw [g.1]; exact hw.agUp c
    have hst := hw.st c
    have hsz := hw.sz c
    refine go_iloadn1 (q := 50) dX4_goesOn_49 rfl ?_
    refine go_aloadn0 (q := 51) dX4_goesOn_50 rfl ?_
    refine go_xg (q := 54) dX4_goesOn_51 fl_X4_7 rfl rfl ?_
    refine go_iconstN (n := 0) (q := 55) dX4_goesOn_54 rfl ?_
    refine go_rld (q := 56) dX4_goesOn_55 (rr_13 (f := 0) (by decide)) rfl ?_
    rw [e0]
    refine go_icmp_geN (tgt := 227) (q := 59) dX4_goesOn_56 (by decide) rfl (by omega) (by omega) (fun h1 => ?_) (fun h1 => ?_)
    · skip
      refine go_forget (lo' := [some (.ref 69), none, none, none]) (fun i v hi => by match i, hi with | 0, h => exact h | 1, h => cases h | 2, h => cases h | 3, h => cases h) ?_
      exact hO X1 (g.to (by rw [show c = X 0 13 0 by omega]))
    · skip
      refine go_aloadn0 (q := 60) dX4_goesOn_59 rfl ?_
      refine go_iloadn1 (q := 61) dX4_goesOn_60 rfl ?_
      refine go_iconstN (n := 3) (q := 62) dX4_goesOn_61 rfl ?_
      refine go_ix2 (q := 65) dX4_goesOn_62 lk_X4_84 (by decide) (by decide) (Nat.le_of_ble_eq_true rfl) rfl (r_is (by omega) (by decide) ?_)
      rw [e3]
      refine go_if_neN (tgt := 156) (q := 68) dX4_goesOn_65 (by decide) rfl (by omega) (fun h2 => ?_) (fun h2 => ?_)
      · skip
        refine go_aloadn0 (q := 157) dX4_goesOn_156 rfl ?_
        refine go_iloadn1 (q := 158) dX4_goesOn_157 rfl ?_
        refine go_iconstN (n := 3) (q := 159) dX4_goesOn_158 rfl ?_
        refine go_ix2 (q := 162) dX4_goesOn_159 lk_X4_84 (by decide) (by decide) (Nat.le_of_ble_eq_true rfl) rfl (r_is (by omega) (by decide) ?_)
        rw [e3]
        refine go_iconstN (n := 2) (q := 163) dX4_goesOn_162 rfl ?_
        refine go_icmp_neN (tgt := 221) (q := 166) dX4_goesOn_163 (by decide) rfl (by omega) (by omega) (fun h3 => ?_) (fun h3 => ?_)
        · skip
          refine go_iincN1 (n := 1) (q := 224) dX4_goesOn_221 rfl (by decide) rfl ?_
          refine go_goto (tgt := 49) dX4_goesOn_224 (by decide) ?_
          exact ih (c + 1) X1 (by omega) (by omega) (g.to (agUp_same h2 (fun w => h3 w.1))) hr
        · skip
          refine go_aloadn0 (q := 167) dX4_goesOn_166 rfl ?_
          refine go_ix0 (q := 170) dX4_goesOn_167 lk_X4_76 (by decide) (by decide) (Nat.le_of_ble_eq_true rfl) rfl (r_season hw1 ?_)
          rw [es]
          have hsl := sea_lt (X 0)
          refine go_bipushN (v := 8) (q := 172) dX4_goesOn_170 (by decide) rfl ?_
          refine go_icmp_neN (tgt := 221) (q := 175) dX4_goesOn_172 (by decide) rfl (by omega) (by omega) (fun h4 => ?_) (fun h4 => ?_)
          · skip
            refine go_iincN1 (n := 1) (q := 224) dX4_goesOn_221 rfl (by decide) rfl ?_
            refine go_goto (tgt := 49) dX4_goesOn_224 (by decide) ?_
            exact ih (c + 1) X1 (by omega) (by omega) (g.to (agUp_same h2 (fun w => h4 w.2))) hr
          · skip
            refine go_aloadn0 (q := 176) dX4_goesOn_175 rfl ?_
            refine go_iloadn1 (q := 177) dX4_goesOn_176 rfl ?_
            refine go_iconstN (n := 2) (q := 178) dX4_goesOn_177 rfl ?_
            refine go_ix2 (q := 181) dX4_goesOn_178 lk_X4_84 (by decide) (by decide) (Nat.le_of_ble_eq_true rfl) rfl (r_is (by omega) (by decide) ?_)
            rw [e2]
            refine go_aloadn0 (q := 182) dX4_goesOn_181 rfl ?_
            refine go_iloadn1 (q := 183) dX4_goesOn_182 rfl ?_
            refine go_ix1 (q := 186) dX4_goesOn_183 lk_X4_98 (by decide) (by decide) (Nat.le_of_ble_eq_true rfl) rfl (r_yields hw1 (by omega) ?_)
            rw [ek, eo, e4]
            have hyl := yld_le (kd := X 0 0 c) (hw.so (X 0 1 c))
            have hmul := Nat.mul_le_mul hsz hyl
            refine go_imulN (q := 187) dX4_goesOn_186 rfl ?_
            refine go_istoren2 (q := 188) dX4_goesOn_187 rfl (by decide) rfl ?_
            refine go_aloadn0 (q := 189) dX4_goesOn_188 rfl ?_
            refine go_iloadn1 (q := 190) dX4_goesOn_189 rfl ?_
            refine go_iconstN (n := 2) (q := 191) dX4_goesOn_190 rfl ?_
            refine go_iloadn2 (q := 192) dX4_goesOn_191 rfl ?_
            refine go_bipushN (v := 99) (q := 194) dX4_goesOn_192 (by decide) rfl ?_
            refine go_icmp_leN (tgt := 202) (q := 197) dX4_goesOn_194 (by decide) rfl (by omega) (by omega) (fun h5 => ?_) (fun h5 => ?_)
            · skip
              refine go_iloadn2 (q := 203) dX4_goesOn_202 rfl ?_
              refine go_ix3 (q := 206) dX4_goesOn_203 lk_X4_65 (by decide) (by decide) (Nat.le_of_ble_eq_true rfl) rfl (r_puts (by omega) (by decide) ?_)
              refine go_aloadn0 (q := 207) dX4_goesOn_206 rfl ?_
              refine go_iloadn1 (q := 208) dX4_goesOn_207 rfl ?_
              refine go_iconstN (n := 3) (q := 209) dX4_goesOn_208 rfl ?_
              refine go_iloadn2 (q := 210) dX4_goesOn_209 rfl ?_
              refine go_if_neN (tgt := 217) (q := 213) dX4_goesOn_210 (by decide) rfl (by omega) (fun h6 => ?_) (fun h6 => ?_)
              · skip
                refine go_iconstN (n := 0) (q := 218) dX4_goesOn_217 rfl ?_
                refine go_ix3 (q := 221) dX4_goesOn_218 lk_X4_65 (by decide) (by decide) (Nat.le_of_ble_eq_true rfl) rfl (r_puts (by omega) (by decide) ?_)
                refine go_iincN1 (n := 1) (q := 224) dX4_goesOn_221 rfl (by decide) rfl ?_
                refine go_goto (tgt := 49) dX4_goesOn_224 (by decide) ?_
                refine go_forget (lo' := [some (.ref 69), some (.int (nI (c + 1))), none, none]) (fun i v hi => by match i, hi with | 0, h => exact h | 1, h => exact h | 2, h => cases h | 3, h => cases h) ?_
                exact ih (c + 1) _ (by omega) (by omega) (((g.u 2 c _).u 3 c 0).to (by rw [← agUp_plant h3 h4, if_neg (by omega), Nat.min_eq_right h5])) (fun d hd => by rw [u3_oth _ (by decide), u3_oth _ (by decide)]; exact hr d hd)
              · skip
                refine go_iconstN (n := 1) (q := 214) dX4_goesOn_213 rfl ?_
                refine go_goto (tgt := 218) dX4_goesOn_214 (by decide) ?_
                refine go_ix3 (q := 221) dX4_goesOn_218 lk_X4_65 (by decide) (by decide) (Nat.le_of_ble_eq_true rfl) rfl (r_puts (by omega) (by decide) ?_)
                refine go_iincN1 (n := 1) (q := 224) dX4_goesOn_221 rfl (by decide) rfl ?_
                refine go_goto (tgt := 49) dX4_goesOn_224 (by decide) ?_
                refine go_forget (lo' := [some (.ref 69), some (.int (nI (c + 1))), none, none]) (fun i v hi => by match i, hi with | 0, h => exact h | 1, h => exact h | 2, h => cases h | 3, h => cases h) ?_
                exact ih (c + 1) _ (by omega) (by omega) (((g.u 2 c _).u 3 c 1).to (by rw [← agUp_plant h3 h4, if_pos (by omega), Nat.min_eq_right h5])) (fun d hd => by rw [u3_oth _ (by decide), u3_oth _ (by decide)]; exact hr d hd)
            · skip
              refine go_bipushN (v := 99) (q := 199) dX4_goesOn_197 (by decide) rfl ?_
              refine go_goto (tgt := 203) dX4_goesOn_199 (by decide) ?_
              refine go_ix3 (q := 206) dX4_goesOn_203 lk_X4_65 (by decide) (by decide) (Nat.le_of_ble_eq_true rfl) rfl (r_puts (by omega) (by decide) ?_)
              refine go_aloadn0 (q := 207) dX4_goesOn_206 rfl ?_
              refine go_iloadn1 (q := 208) dX4_goesOn_207 rfl ?_
              refine go_iconstN (n := 3) (q := 209) dX4_goesOn_208 rfl ?_
              refine go_iloadn2 (q := 210) dX4_goesOn_209 rfl ?_
              refine go_if_neN (tgt := 217) (q := 213) dX4_goesOn_210 (by decide) rfl (by omega) (fun h6 => ?_) (fun h6 => ?_)
              · skip
                refine go_iconstN (n := 0) (q := 218) dX4_goesOn_217 rfl ?_
                refine go_ix3 (q := 221) dX4_goesOn_218 lk_X4_65 (by decide) (by decide) (Nat.le_of_ble_eq_true rfl) rfl (r_puts (by omega) (by decide) ?_)
                refine go_iincN1 (n := 1) (q := 224) dX4_goesOn_221 rfl (by decide) rfl ?_
                refine go_goto (tgt := 49) dX4_goesOn_224 (by decide) ?_
                refine go_forget (lo' := [some (.ref 69), some (.int (nI (c + 1))), none, none]) (fun i v hi => by match i, hi with | 0, h => exact h | 1, h => exact h | 2, h => cases h | 3, h => cases h) ?_
                exact ih (c + 1) _ (by omega) (by omega) (((g.u 2 c _).u 3 c 0).to (by rw [← agUp_plant h3 h4, if_neg (by omega), Nat.min_eq_left (by omega)])) (fun d hd => by rw [u3_oth _ (by decide), u3_oth _ (by decide)]; exact hr d hd)
              · skip
                exact absurd h6 (by omega)
      · skip
        refine go_aloadn0 (q := 69) dX4_goesOn_68 rfl ?_
        refine go_iloadn1 (q := 70) dX4_goesOn_69 rfl ?_
        refine go_iconstN (n := 2) (q := 71) dX4_goesOn_70 rfl ?_
        refine go_ix2 (q := 74) dX4_goesOn_71 lk_X4_84 (by decide) (by decide) (Nat.le_of_ble_eq_true rfl) rfl (r_is (by omega) (by decide) ?_)
        rw [e2]
        refine go_aloadn0 (q := 75) dX4_goesOn_74 rfl ?_
        refine go_iloadn1 (q := 76) dX4_goesOn_75 rfl ?_
        refine go_ix1 (q := 79) dX4_goesOn_76 lk_X4_95 (by decide) (by decide) (Nat.le_of_ble_eq_true rfl) rfl (r_shrinks hw1 (by omega) ?_)
        rw [ek, es]
        have hsh := shr_le (X 0 0 c) (sea (X 0))
        have hsub := sub_cs (a := X 0 2 c) (b := shr (X 0 0 c) (sea (X 0))) (by omega) (by omega)
        refine go_isub (q := 80) dX4_goesOn_79 rfl ?_
        refine go_istoren2 (q := 81) dX4_goesOn_80 rfl (by decide) rfl ?_
        refine go_aloadn0 (q := 82) dX4_goesOn_81 rfl ?_
        refine go_iloadn1 (q := 83) dX4_goesOn_82 rfl ?_
        refine go_iconstN (n := 2) (q := 84) dX4_goesOn_83 rfl ?_
        refine go_iloadn2 (q := 85) dX4_goesOn_84 rfl ?_
        refine go_if_ge (tgt := 92) (q := 88) dX4_goesOn_85 (by decide) rfl (fun h3 => ?_) (fun h3 => ?_)
        · skip
          refine go_iloadn2 (q := 93) dX4_goesOn_92 rfl ?_
          refine go_st (st' := [.int (nI (X 0 2 c - shr (X 0 0 c) (sea (X 0)))), .int (nI 2), .int (nI c), .ref 69]) (by rw [hsub.2.1 h3]) ?_
          refine go_ix3 (q := 96) dX4_goesOn_93 lk_X4_65 (by decide) (by decide) (Nat.le_of_ble_eq_true rfl) rfl (r_puts (by omega) (by decide) ?_)
          exact r_goesOn_96 hw (by omega) h2 (fun d hd => by rw [u3_oth _ (by decide)]; exact hr d hd) hsub.2.2 ((g.u 2 c _).to (by congr 1; unfold agSz; rw [if_pos h2])) (fun X2 g2 hr2 => r_goesOn_221 (ih (c + 1) X2 (by omega) (by omega) g2 hr2))
        · skip
          refine go_iconstN (n := 0) (q := 89) dX4_goesOn_88 rfl ?_
          refine go_goto (tgt := 93) dX4_goesOn_89 (by decide) ?_
          refine go_ix3 (q := 96) dX4_goesOn_93 lk_X4_65 (by decide) (by decide) (Nat.le_of_ble_eq_true rfl) rfl (r_puts (by omega) (by decide) ?_)
          exact r_goesOn_96 hw (by omega) h2 (fun d hd => by rw [u3_oth _ (by decide)]; exact hr d hd) hsub.2.2 ((g.u 2 c _).to (by congr 1; unfold agSz; rw [if_pos h2, hsub.1 h3])) (fun X2 g2 hr2 => r_goesOn_221 (ih (c + 1) X2 (by omega) (by omega) g2 hr2))

set_option maxHeartbeats 4000000 in
set_option maxRecDepth 100000 in
theorem r_goesOn_2 {S : St} {N : Nat → Nat → Int64} {X : St} {Y : Nat → Int64} {Q : Option Value → AH → Prop} (hw : WF (X 0)) (hO : ∀ X1, Xc X X1 (agUp (X 0) (X 0 13 0)) → Go 8 RX4 cX4_goesOn 4 none 227 [some (.ref 69), none, none, none] [] (hp S N X1 Y) Q) : ∀ (fu : Nat) (c : Nat) (X1 : St), 14 - c < fu → (c ≤ 14) → (Xc X X1 (X 0)) → (∀ d, d < c → X1 3 3 d = rtt (X 0) d) → Go 8 RX4 cX4_goesOn 4 none 2 [some (.ref 69), some (.int (nI c)), none, none] [] (hp S N X1 Y) Q := by
  intro fu
  induction fu with
  | zero => intro c X1 hfu; exact absurd hfu (Nat.not_lt_zero _)
  | succ fu ih =>
    intro c X1 hfu hc g hr
    have hco := hw.co
    have hw1 : WF (X1 0) := by rw [g.1]; exact hw
    refine go_iloadn1 (q := 3) dX4_goesOn_2 rfl ?_
    refine go_bipushN (v := 14) (q := 5) dX4_goesOn_3 (by decide) rfl ?_
    refine go_icmp_geN (tgt := 47) (q := 8) dX4_goesOn_5 (by decide) rfl (by omega) (by omega) (fun h1 => ?_) (fun h1 => ?_)
    · skip
      refine go_iconstN (n := 0) (q := 48) dX4_goesOn_47 rfl ?_
      refine go_istoren1 (q := 49) dX4_goesOn_48 rfl (by decide) rfl ?_
      exact r_goesOn_49 hw hO (X 0 13 0 + 1) 0 X1 (by omega) (by omega) (g.to (agUp_0 _).symm) (fun d hd => hr d (by omega))
    · skip
      refine go_aloadn0 (q := 9) dX4_goesOn_8 rfl ?_
      refine go_xg (q := 12) dX4_goesOn_9 fl_X4_38 rfl rfl ?_
      refine go_iloadn1 (q := 13) dX4_goesOn_12 rfl ?_
      refine go_aloadn0 (q := 14) dX4_goesOn_13 rfl ?_
      refine go_iloadn1 (q := 15) dX4_goesOn_14 rfl ?_
      refine go_iconstN (n := 1) (q := 16) dX4_goesOn_15 rfl ?_
      refine go_isub (q := 17) dX4_goesOn_16 rfl ?_
      refine go_ix1 (q := 20) dX4_goesOn_17 lk_X4_87 (by decide) (by decide) (Nat.le_of_ble_eq_true rfl) rfl (r_isCoin hw1 ?_)
      rw [g.1]
      refine go_ifeqB (tgt := 39) (q := 23) dX4_goesOn_20 (by decide) rfl (fun h2 => ?_) (fun h2 => ?_)
      · skip
        refine go_iconstN (n := 0) (q := 40) dX4_goesOn_39 rfl ?_
        refine go_xrst (q := 41) dX4_goesOn_40 (by omega) (by decide) rfl ?_
        refine go_iincN1 (n := 1) (q := 44) dX4_goesOn_41 rfl (by decide) rfl ?_
        refine go_goto (tgt := 2) dX4_goesOn_44 (by decide) ?_
        exact ih (c + 1) _ (by omega) (by omega) (g.v (Or.inr rfl) c 0) (rtt_st hr (by unfold rtt; rw [if_neg (fun w => h2 ((ic_pred hco (by omega)).mpr ⟨w.1, w.2.1⟩))]))
      · skip
        have hp1 := (ic_pred hco (by omega)).mp h2
        refine go_aloadn0 (q := 24) dX4_goesOn_23 rfl ?_
        refine go_iloadn1 (q := 25) dX4_goesOn_24 rfl ?_
        refine go_iconstN (n := 1) (q := 26) dX4_goesOn_25 rfl ?_
        refine go_isubN (q := 27) dX4_goesOn_26 (by omega) rfl ?_
        refine go_iconstN (n := 3) (q := 28) dX4_goesOn_27 rfl ?_
        refine go_ix2 (q := 31) dX4_goesOn_28 lk_X4_84 (by decide) (by decide) (Nat.le_of_ble_eq_true rfl) rfl (r_is (show c - 1 < 12 by omega) (by decide) ?_)
        rw [g.1]
        have hst := hw.st (c - 1)
        refine go_iconstN (n := 1) (q := 32) dX4_goesOn_31 rfl ?_
        refine go_icmp_neN (tgt := 39) (q := 35) dX4_goesOn_32 (by decide) rfl (by omega) (by omega) (fun h3 => ?_) (fun h3 => ?_)
        · skip
          refine go_iconstN (n := 0) (q := 40) dX4_goesOn_39 rfl ?_
          refine go_xrst (q := 41) dX4_goesOn_40 (by omega) (by decide) rfl ?_
          refine go_iincN1 (n := 1) (q := 44) dX4_goesOn_41 rfl (by decide) rfl ?_
          refine go_goto (tgt := 2) dX4_goesOn_44 (by decide) ?_
          exact ih (c + 1) _ (by omega) (by omega) (g.v (Or.inr rfl) c 0) (rtt_st hr (by unfold rtt; rw [if_neg (fun w => h3 w.2.2)]))
        · skip
          refine go_iconstN (n := 1) (q := 36) dX4_goesOn_35 rfl ?_
          refine go_goto (tgt := 40) dX4_goesOn_36 (by decide) ?_
          refine go_xrst (q := 41) dX4_goesOn_40 (by omega) (by decide) rfl ?_
          refine go_iincN1 (n := 1) (q := 44) dX4_goesOn_41 rfl (by decide) rfl ?_
          refine go_goto (tgt := 2) dX4_goesOn_44 (by decide) ?_
          exact ih (c + 1) _ (by omega) (by omega) (g.v (Or.inr rfl) c 1) (rtt_st hr (by unfold rtt; rw [if_pos ⟨hp1.1, hp1.2, h3⟩]))
