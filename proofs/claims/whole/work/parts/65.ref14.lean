/-- of the numbers from p to 99 the least that P has -/
def BP (P : Nat → Prop) (p : Nat) (ob : Option Nat) : Prop := match ob with
  | none => ∀ q, p ≤ q → q ≤ 99 → ¬ P q
  | some b => b ≤ 99 ∧ p ≤ b ∧ P b ∧ ∀ q, p ≤ q → q < b → ¬ P q
theorem BP.no {P : Nat → Prop} {p : Nat} {ob : Option Nat} (h : BP P (p + 1) ob) (hn : ¬ P p) : BP P p ob := by
  cases ob with
  | none =>
    intro q h1 h2 h3
    by_cases e : q = p
    · exact hn (e ▸ h3)
    · exact h q (by omega) h2 h3
  | some b =>
    refine ⟨h.1, by have := h.2.1; omega, h.2.2.1, fun q h1 h2 h3 => ?_⟩
    by_cases e : q = p
    · exact hn (e ▸ h3)
    · exact h.2.2.2 q (by omega) h2 h3
theorem BP.yes {P : Nat → Prop} {p : Nat} {ob : Option Nat} (_ : BP P (p + 1) ob) (hp : p ≤ 99) (hy : P p) : BP P p (some p) := ⟨hp, Nat.le_refl _, hy, fun q h1 h2 => absurd h1 (by omega)⟩
theorem pm1_toInt {p : Nat} (h : p ≤ 100) : (nI p - nI 1).toInt = (p : Int) - 1 := pk_sub_toInt (by omega) (by decide)
theorem pm1_lt {p : Nat} (h : p ≤ 100) (hl : nI p - nI 1 < 0) : p = 0 := by
  rw [Int32.lt_iff_toInt_lt, pm1_toInt h] at hl
  have : (0 : Int32).toInt = 0 := by decide
  omega
theorem pm1_ge {p : Nat} (h : p ≤ 100) (hl : ¬ nI p - nI 1 < 0) : 1 ≤ p := by
  rw [Int32.lt_iff_toInt_lt, pm1_toInt h] at hl
  have : (0 : Int32).toInt = 0 := by decide
  omega
theorem pm1_s (p : Nat) : nI (p + 1) - nI 1 = nI p := by
  apply Int32.toBitVec_inj.mp
  simp [nI, BitVec.ofNat_add]

set_option maxHeartbeats 4000000 in
set_option maxRecDepth 100000 in
theorem r_priceFor_94n {S : St} {N : Nat → Nat → Int64} {X X1 : St} {Y : Nat → Int64} {Q : Option Value → AH → Prop} {a1 a2 a3 a4 a6 : Option Value} (hN : ∀ X', Xf X X' 3 → Q (some (.int (-1000000004))) (hp S N X' Y)) (g : Xp X X1 (X 0)) : Go 4 RX4 cX4_priceFor 7 (some .int) 94 [some (.ref 69), a1, a2, a3, a4, some (.int (-1)), a6] [] (hp S N X1 Y) Q := by
  refine go_iload5 (q := 96) dX4_priceFor_94 rfl ?_
  refine go_if_ge (tgt := 108) (q := 99) dX4_priceFor_96 (by decide) rfl (fun h1 => ?_) (fun h1 => ?_)
  · skip
    exact absurd h1 (by decide)
  · skip
    refine go_aloadn0 (q := 100) dX4_priceFor_99 rfl ?_
    refine go_ldc (q := 102) dX4_priceFor_100 ko_X4_166 rfl ?_
    refine go_ix1 (q := 105) dX4_priceFor_102 lk_X4_57 (by decide) (by decide) (Nat.le_of_ble_eq_true rfl) rfl (r_finds (p := 3) (by decide) (by decide) ?_)
    refine go_goto (tgt := 110) dX4_priceFor_105 (by decide) ?_
    exact go_iret dX4_priceFor_110 rfl (hN _ (g.f 3))

set_option maxHeartbeats 4000000 in
set_option maxRecDepth 100000 in
theorem r_priceFor_94s {h : AH} {Q : Option Value → AH → Prop} {a0 a1 a2 a3 a4 a6 : Option Value} {p : Nat} (hp31 : p < 2 ^ 31) (hQ : Q (some (.int (nI p))) h) : Go 4 RX4 cX4_priceFor 7 (some .int) 94 [a0, a1, a2, a3, a4, some (.int (nI p)), a6] [] h Q := by
  refine go_iload5 (q := 96) dX4_priceFor_94 rfl ?_
  refine go_if_geN (tgt := 108) (q := 99) dX4_priceFor_96 (by decide) rfl hp31 (fun h1 => ?_) (fun h1 => ?_)
  · skip
    refine go_iload5 (q := 110) dX4_priceFor_108 rfl ?_
    exact go_iret dX4_priceFor_110 rfl hQ
  · skip
    exact absurd trivial h1

set_option maxHeartbeats 4000000 in
set_option maxRecDepth 100000 in
theorem r_priceFor_86 {S : St} {N : Nat → Nat → Int64} {X : St} {Y : Nat → Int64} {Q : Option Value → AH → Prop} {f v : Nat} (hw : WF (X 0)) (hf : f ≤ 3) (hv : v ≤ 9999) (hO : ∀ p, p ≤ 99 → v ≤ purse (u2 (X 0) 5 (sea (X 0)) p) f → (∀ q, q < p → ¬ v ≤ purse (u2 (X 0) 5 (sea (X 0)) q) f) → ∀ X', Xp X X' (X 0) → Q (some (.int (nI p))) (hp S N X' Y)) (hN : (∀ q, q ≤ 99 → ¬ v ≤ purse (u2 (X 0) 5 (sea (X 0)) q) f) → ∀ X', Xf X X' 3 → Q (some (.int (-1000000004))) (hp S N X' Y)) {ob : Option Nat} {X1 : St} (g1 : ∃ w, Xc X X1 (u2 (X 0) 5 (sea (X 0)) w)) (hob : BP (fun q => v ≤ purse (u2 (X 0) 5 (sea (X 0)) q) f) 0 ob) : Go 4 RX4 cX4_priceFor 7 (some .int) 86 [some (.ref 69), some (.int (nI f)), some (.int (nI v)), some (.int (nI (8 + sea (X 0)))), some (.int (nI (X 0 5 (sea (X 0))))), some (.int (bO ob)), none] [] (hp S N X1 Y) Q := by
  obtain ⟨w, g1⟩ := g1
  refine go_aloadn0 (q := 87) dX4_priceFor_86 rfl ?_
  refine go_xg (q := 90) dX4_priceFor_87 fl_X4_7 rfl rfl ?_
  refine go_iloadn3 (q := 91) dX4_priceFor_90 rfl ?_
  refine go_iload4 (q := 93) dX4_priceFor_91 rfl ?_
  refine go_rst (q := 94) dX4_priceFor_93 (rr_price (sea_lt (X 0))) rfl ?_
  have g2 : Xc X (u3 X1 0 5 (sea (X 0)) (X 0 5 (sea (X 0)))) (X 0) := (g1.u 5 (sea (X 0)) (X 0 5 (sea (X 0)))).to ((u2_u2 _ _ _ _ _).trans (u2_id _ _ _ rfl))
  rcases ob with _ | p
  · exact r_priceFor_94n (hN (fun q hq => hob q (Nat.zero_le _) hq)) g2.p
  · exact r_priceFor_94s (by have := hob.1; omega) (hO p hob.1 hob.2.2.1 (fun q hq => hob.2.2.2 q (Nat.zero_le _) hq) _ g2.p)

set_option maxHeartbeats 4000000 in
set_option maxRecDepth 100000 in
theorem r_priceFor_49 {S : St} {N : Nat → Nat → Int64} {X : St} {Y : Nat → Int64} {Q : Option Value → AH → Prop} {f v : Nat} (hw : WF (X 0)) (hf : f ≤ 3) (hv : v ≤ 9999) (hO : ∀ p, p ≤ 99 → v ≤ purse (u2 (X 0) 5 (sea (X 0)) p) f → (∀ q, q < p → ¬ v ≤ purse (u2 (X 0) 5 (sea (X 0)) q) f) → ∀ X', Xp X X' (X 0) → Q (some (.int (nI p))) (hp S N X' Y)) (hN : (∀ q, q ≤ 99 → ¬ v ≤ purse (u2 (X 0) 5 (sea (X 0)) q) f) → ∀ X', Xf X X' 3 → Q (some (.int (-1000000004))) (hp S N X' Y)) : ∀ (fu : Nat) (p : Nat) (ob : Option Nat) (X1 : St), p < fu → (p ≤ 100) → (∃ w, Xc X X1 (u2 (X 0) 5 (sea (X 0)) w)) → (BP (fun q => v ≤ purse (u2 (X 0) 5 (sea (X 0)) q) f) p ob) → Go 4 RX4 cX4_priceFor 7 (some .int) 49 [some (.ref 69), some (.int (nI f)), some (.int (nI v)), some (.int (nI (8 + sea (X 0)))), some (.int (nI (X 0 5 (sea (X 0))))), some (.int (bO ob)), some (.int (nI p - nI 1))] [] (hp S N X1 Y) Q := by
  intro fu
  induction fu with
  | zero => intro p ob X1 hfu; exact absurd hfu (Nat.not_lt_zero _)
  | succ fu ih =>
    intro p ob X1 hfu hp99 g1 hob
    refine go_iload6 (q := 51) dX4_priceFor_49 rfl ?_
    refine go_if_lt (tgt := 86) (q := 54) dX4_priceFor_51 (by decide) rfl (fun h1 => ?_) (fun h1 => ?_)
    · skip
      refine go_forget (lo' := [some (.ref 69), some (.int (nI f)), some (.int (nI v)), some (.int (nI (8 + sea (X 0)))), some (.int (nI (X 0 5 (sea (X 0))))), some (.int (bO ob)), none]) (fun i v hi => by match i, hi with | 0, h => exact h | 1, h => exact h | 2, h => exact h | 3, h => exact h | 4, h => exact h | 5, h => exact h | 6, h => cases h) ?_
      obtain rfl : p = 0 := pm1_lt (by omega) h1
      exact r_priceFor_86 hw hf hv hO hN g1 hob
    · skip
      obtain ⟨p, rfl⟩ : ∃ q, p = q + 1 := ⟨p - 1, by have := pm1_ge (by omega) h1; omega⟩
      obtain ⟨w, g1⟩ := g1
      rw [show nI (p + 1) - nI 1 = nI p from pm1_s p]
      refine go_aloadn0 (q := 55) dX4_priceFor_54 rfl ?_
      refine go_xg (q := 58) dX4_priceFor_55 fl_X4_7 rfl rfl ?_
      refine go_iloadn3 (q := 59) dX4_priceFor_58 rfl ?_
      refine go_iload6 (q := 61) dX4_priceFor_59 rfl ?_
      refine go_rst (q := 62) dX4_priceFor_61 (rr_price (sea_lt (X 0))) rfl ?_
      have g2 := (g1.u 5 (sea (X 0)) p).to (u2_u2 _ _ _ _ _)
      have hwu : WF (u2 (X 0) 5 (sea (X 0)) p) := hw.upd (by omega)
      have hw2 : WF (u3 X1 0 5 (sea (X 0)) p 0) := by rw [g2.1]; exact hwu
      have pl := purse_le hwu f
      refine go_aloadn0 (q := 63) dX4_priceFor_62 rfl ?_
      refine go_iloadn1 (q := 64) dX4_priceFor_63 rfl ?_
      refine go_ix1 (q := 67) dX4_priceFor_64 lk_X4_120 (by decide) (by decide) (Nat.le_of_ble_eq_true rfl) rfl (r_purseOf hw2 (by omega) ?_)
      rw [g2.1]
      refine go_iloadn2 (q := 68) dX4_priceFor_67 rfl ?_
      refine go_icmp_ltN (tgt := 76) (q := 71) dX4_priceFor_68 (by decide) rfl (by omega) (by omega) (fun h2 => ?_) (fun h2 => ?_)
      · skip
        refine go_iload5 (q := 78) dX4_priceFor_76 rfl ?_
        refine go_istore5 (q := 80) dX4_priceFor_78 rfl (by decide) rfl ?_
        refine go_iinc6 (q := 83) dX4_priceFor_80 rfl (by decide) rfl ?_
        refine go_goto (tgt := 49) dX4_priceFor_83 (by decide) ?_
        rw [show nI p + Int32.ofInt (-1) = nI p - nI 1 from nI_m1 _]
        exact ih p ob _ (by omega) (by omega) ⟨p, g2⟩ (hob.no (by omega))
      · skip
        refine go_iload6 (q := 73) dX4_priceFor_71 rfl ?_
        refine go_goto (tgt := 78) dX4_priceFor_73 (by decide) ?_
        refine go_istore5 (q := 80) dX4_priceFor_78 rfl (by decide) rfl ?_
        refine go_iinc6 (q := 83) dX4_priceFor_80 rfl (by decide) rfl ?_
        refine go_goto (tgt := 49) dX4_priceFor_83 (by decide) ?_
        rw [show nI p + Int32.ofInt (-1) = nI p - nI 1 from nI_m1 _]
        exact ih p (some p) _ (by omega) (by omega) ⟨p, g2⟩ (hob.yes (by omega) (by omega))

set_option maxHeartbeats 4000000 in
set_option maxRecDepth 100000 in
theorem r_priceFor {S : St} {N : Nat → Nat → Int64} {X : St} {Y : Nat → Int64} {Q : Option Value → AH → Prop} {x z : Int32} (hw : WF (X 0)) (hB : ¬ (rg x 0 3 ∧ rg z 0 9999) → ∀ X', Xf X X' 0 → Q (some (.int (-1000000001))) (hp S N X' Y)) (hO : ∀ f v p, f ≤ 3 → v ≤ 9999 → x = nI f → z = nI v → p ≤ 99 → v ≤ purse (u2 (X 0) 5 (sea (X 0)) p) f → (∀ q, q < p → ¬ v ≤ purse (u2 (X 0) 5 (sea (X 0)) q) f) → ∀ X', Xp X X' (X 0) → Q (some (.int (nI p))) (hp S N X' Y)) (hN : ∀ f v, f ≤ 3 → v ≤ 9999 → x = nI f → z = nI v → (∀ q, q ≤ 99 → ¬ v ≤ purse (u2 (X 0) 5 (sea (X 0)) q) f) → ∀ X', Xf X X' 3 → Q (some (.int (-1000000004))) (hp S N X' Y)) : Cn 4 yX4_priceFor cX4_priceFor 7 (some .int) [.ref 69, .int x, .int z] (hp S N X Y) Q := by
  refine cn_of (own := RX4) (lo := [some (.ref 69), some (.int x), some (.int z), none, none, none, none]) 4 rfl (by decide +kernel) rfl (Nat.le_of_ble_eq_true rfl) ?_
  refine go_iloadn1 (q := 1) dX4_priceFor_0 rfl ?_
  refine go_is1_ (q := 4) dX4_priceFor_1 lk_X4_43 (by decide) (by decide) (Nat.le_of_ble_eq_true rfl) rfl (r_isOwner ?_)
  refine go_ifeqB (tgt := 19) (q := 7) dX4_priceFor_4 (by decide) rfl (fun h1 => ?_) (fun h1 => ?_)
  · skip
    refine go_aloadn0 (q := 20) dX4_priceFor_19 rfl ?_
    refine go_ldc (q := 22) dX4_priceFor_20 ko_X4_42 rfl ?_
    refine go_ix1 (q := 25) dX4_priceFor_22 lk_X4_57 (by decide) (by decide) (Nat.le_of_ble_eq_true rfl) rfl (r_finds (p := 0) (by decide) (by decide) ?_)
    exact go_iret dX4_priceFor_25 rfl (hB (fun w => h1 w.1) _ (Xf.rf 0))
  · skip
    refine go_iloadn2 (q := 8) dX4_priceFor_7 rfl ?_
    refine go_i2l (q := 9) dX4_priceFor_8 rfl ?_
    refine go_lconst (q := 10) dX4_priceFor_9 rfl ?_
    refine go_ldc2 (q := 13) dX4_priceFor_10 ko_X4_123 rfl ?_
    refine go_is3_ (q := 16) dX4_priceFor_13 lk_X4_49 (by decide) (by decide) (Nat.le_of_ble_eq_true rfl) rfl (r_isIn (l := 0) (m := 9999) (by decide) (by decide) ?_)
    refine go_ifneB (tgt := 26) (q := 19) dX4_priceFor_16 (by decide) rfl (fun h2 => ?_) (fun h2 => ?_)
    · skip
      obtain ⟨f, hf, rfl, -, -⟩ := rg_nat (n := 3) h1 (by omega) (by omega)
      obtain ⟨v, hv, rfl, -, -⟩ := rg_nat (n := 9999) h2 (by omega) (by omega)
      refine go_bipushN (v := 8) (q := 28) dX4_priceFor_26 (by decide) rfl ?_
      refine go_aloadn0 (q := 29) dX4_priceFor_28 rfl ?_
      refine go_ix0 (q := 32) dX4_priceFor_29 lk_X4_76 (by decide) (by decide) (Nat.le_of_ble_eq_true rfl) rfl (r_season hw ?_)
      refine go_iaddN (q := 33) dX4_priceFor_32 rfl ?_
      refine go_istoren3 (q := 34) dX4_priceFor_33 rfl (by decide) rfl ?_
      refine go_aloadn0 (q := 35) dX4_priceFor_34 rfl ?_
      refine go_xg (q := 38) dX4_priceFor_35 fl_X4_7 rfl rfl ?_
      refine go_iloadn3 (q := 39) dX4_priceFor_38 rfl ?_
      refine go_rld (q := 40) dX4_priceFor_39 (rr_price (sea_lt (X 0))) rfl ?_
      refine go_istore4 (q := 42) dX4_priceFor_40 rfl (by decide) rfl ?_
      refine go_iconstV (v := -1) (q := 43) dX4_priceFor_42 (by decide) rfl ?_
      refine go_istore5 (q := 45) dX4_priceFor_43 rfl (by decide) rfl ?_
      refine go_bipushN (v := 99) (q := 47) dX4_priceFor_45 (by decide) rfl ?_
      refine go_istore6 (q := 49) dX4_priceFor_47 rfl (by decide) rfl ?_
      exact r_priceFor_49 hw hf hv (fun p => hO f v p hf hv rfl rfl) (hN f v hf hv rfl rfl) 101 100 none X (by omega) (by omega) ⟨_, Xc.rf.to (u2_id _ _ _ rfl).symm⟩ (fun q h1 h2 => absurd h1 (by omega))
    · skip
      refine go_aloadn0 (q := 20) dX4_priceFor_19 rfl ?_
      refine go_ldc (q := 22) dX4_priceFor_20 ko_X4_42 rfl ?_
      refine go_ix1 (q := 25) dX4_priceFor_22 lk_X4_57 (by decide) (by decide) (Nat.le_of_ble_eq_true rfl) rfl (r_finds (p := 0) (by decide) (by decide) ?_)
      exact go_iret dX4_priceFor_25 rfl (hB (fun w => h2 w.2) _ (Xf.rf 0))
