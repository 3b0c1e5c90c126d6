def upf (r : Nat → Nat) (t v : Nat) : Nat → Nat := fun i => if i = t then v else r i
def zY (Y : Nat → Int64) (t n : Nat) : Nat → Int64 := fun i => if 40 * t ≤ i ∧ i < 40 * t + n then 0 else Y i
theorem zY_0 (Y : Nat → Int64) (t : Nat) : zY Y t 0 = Y := by
  funext i
  unfold zY
  rw [if_neg (by omega)]
theorem zY_s (Y : Nat → Int64) (t n : Nat) : vp_updL (zY Y t n) (40 * t + n) (Int64.ofNat ((0 : Fin 2) : Nat)) = zY Y t (n + 1) := by
  funext i
  unfold vp_updL zY
  by_cases e : i = 40 * t + n
  · rw [if_pos e, if_pos (show 40 * t ≤ i ∧ i < 40 * t + (n + 1) by omega)]
    rfl
  · rw [if_neg e]
    by_cases h : 40 * t ≤ i ∧ i < 40 * t + n
    · rw [if_pos h, if_pos (show 40 * t ≤ i ∧ i < 40 * t + (n + 1) by omega)]
    · rw [if_neg h, if_neg (show ¬ (40 * t ≤ i ∧ i < 40 * t + (n + 1)) by omega)]
theorem u3_upf5 (X : St) (t c v : Nat) : u3 (u3 X 3 6 t c) 3 5 t v 3 5 = upf (X 3 5) t v := by
  funext i
  unfold u3 upf
  by_cases e : i = t <;> simp [e]
theorem u3_65 (X : St) (t c v : Nat) : u3 (u3 X 3 6 t c) 3 5 t v 3 6 = upf (X 3 6) t c := by
  funext i
  unfold u3 upf
  by_cases e : i = t <;> simp [e]

set_option maxHeartbeats 4000000 in
set_option maxRecDepth 100000 in
theorem r_sheet_93 {S : St} {N : Nat → Nat → Int64} {X : St} {Y : Nat → Int64} {Q : Option Value → AH → Prop} {t n : Nat} {b z : Int32} {r : Nat} (ht : t < 4) (er : X 3 5 t = r) (hQ : Q (some (.int (nI r))) (hp S N X (zY Y t 40))) : ∀ (fu : Nat) (k : Nat), 40 - k < fu → (k ≤ 40) → Go 3 RX4 cX4_sheet 5 (some .int) 93 [some (.ref 69), some (.int (nI t)), some (.int b), some (.int z), some (.int (nI k))] [] (hp S N X (zY Y t k)) Q := by
  intro fu
  induction fu with
  | zero => intro k hfu; exact absurd hfu (Nat.not_lt_zero _)
  | succ fu ih =>
    intro k hfu hk
    refine go_iload4 (q := 95) dX4_sheet_93 rfl ?_
    refine go_bipushN (v := 40) (q := 97) dX4_sheet_95 (by decide) rfl ?_
    refine go_icmp_geN (tgt := 119) (q := 100) dX4_sheet_97 (by decide) rfl (by omega) (by omega) (fun h1 => ?_) (fun h1 => ?_)
    · skip
      refine go_aloadn0 (q := 120) dX4_sheet_119 rfl ?_
      refine go_xg (q := 123) dX4_sheet_120 fl_X4_28 rfl rfl ?_
      refine go_iloadn1 (q := 124) dX4_sheet_123 rfl ?_
      refine go_xzld (q := 125) dX4_sheet_124 ht rfl ?_
      rw [er]
      exact go_iret dX4_sheet_125 rfl (by rw [show k = 40 by omega]; exact hQ)
    · skip
      refine go_aloadn0 (q := 101) dX4_sheet_100 rfl ?_
      refine go_xg (q := 104) dX4_sheet_101 fl_X4_31 rfl rfl ?_
      refine go_bipushN (v := 40) (q := 106) dX4_sheet_104 (by decide) rfl ?_
      refine go_iloadn1 (q := 107) dX4_sheet_106 rfl ?_
      refine go_imulN (q := 108) dX4_sheet_107 rfl ?_
      refine go_iload4 (q := 110) dX4_sheet_108 rfl ?_
      refine go_iaddN (q := 111) dX4_sheet_110 rfl ?_
      refine go_lconst (q := 112) dX4_sheet_111 rfl ?_
      refine go_xlst (q := 113) dX4_sheet_112 (show 40 * t + k < 160 by omega) rfl ?_
      rw [zY_s]
      refine go_iincN4 (n := 1) (q := 116) dX4_sheet_113 rfl (by decide) rfl ?_
      refine go_goto (tgt := 93) dX4_sheet_116 (by decide) ?_
      exact ih (k + 1) (by omega) (by omega)

set_option maxHeartbeats 4000000 in
set_option maxRecDepth 100000 in
theorem r_sheet_36_0 {S : St} {N : Nat → Nat → Int64} {X : St} {Y : Nat → Int64} {Q : Option Value → AH → Prop} {t : Nat} {z : Int32} (ht : t < 4) (hZ : z.toInt < 0 → ∀ X', Xf X X' 6 → Q (some (.int (-1000000007))) (hp S N X' Y)) (hL : ¬ z.toInt ≤ 40 → 0 ≤ z.toInt → ∀ X', Xf X X' 0 → Q (some (.int (-1000000001))) (hp S N X' Y)) (hO : ∀ n, n ≤ 40 → z = nI n → ∀ X', X' 0 = X 0 → X' 1 = X 1 → X' 3 6 = upf (X 3 6) t 0 → X' 3 5 = upf (X 3 5) t 0 → (∀ j, j ≠ 2 → j ≠ 3 → j ≠ 5 → j ≠ 6 → X' 3 j = X 3 j) → Q (some (.int (nI 0))) (hp S N X' (zY Y t 40))) : Go 3 RX4 cX4_sheet 5 (some .int) 36 [some (.ref 69), some (.int (nI t)), some (.int (nI 0)), some (.int z), none] [] (hp S N X Y) Q := by
  refine go_iloadn3 (q := 37) dX4_sheet_36 rfl ?_
  refine go_if_ge (tgt := 47) (q := 40) dX4_sheet_37 (by decide) rfl (fun h1 => ?_) (fun h1 => ?_)
  · skip
    refine go_iloadn3 (q := 48) dX4_sheet_47 rfl ?_
    refine go_bipushN (v := 40) (q := 50) dX4_sheet_48 (by decide) rfl ?_
    refine go_icmp_le (tgt := 60) (q := 53) dX4_sheet_50 (by decide) rfl (fun h2 => ?_) (fun h2 => ?_)
    · skip
      obtain ⟨n, hn, rfl, -, -⟩ := rg_nat (n := 40) (x := z) (l := 0) (h := 40) ⟨ge0 h1, le40 h2⟩ (by omega) (by omega)
      refine go_aloadn0 (q := 61) dX4_sheet_60 rfl ?_
      refine go_xg (q := 64) dX4_sheet_61 fl_X4_25 rfl rfl ?_
      refine go_iloadn1 (q := 65) dX4_sheet_64 rfl ?_
      refine go_iloadn2 (q := 66) dX4_sheet_65 rfl ?_
      refine go_if_neN (tgt := 73) (q := 69) dX4_sheet_66 (by decide) rfl (by omega) (fun h3 => ?_) (fun h3 => ?_)
      · skip
        exact absurd rfl h3
      · skip
        refine go_iconstV (v := -1) (q := 70) dX4_sheet_69 (by decide) rfl ?_
        refine go_goto (tgt := 74) dX4_sheet_70 (by decide) ?_
        refine go_st (st' := [.int (bitI 0), .int (nI t), .ref 75]) rfl ?_
        refine go_xbst (q := 75) dX4_sheet_74 ht rfl ?_
        refine go_aloadn0 (q := 76) dX4_sheet_75 rfl ?_
        refine go_xg (q := 79) dX4_sheet_76 fl_X4_28 rfl rfl ?_
        refine go_iloadn1 (q := 80) dX4_sheet_79 rfl ?_
        refine go_iloadn2 (q := 81) dX4_sheet_80 rfl ?_
        refine go_if_neN (tgt := 88) (q := 84) dX4_sheet_81 (by decide) rfl (by omega) (fun h4 => ?_) (fun h4 => ?_)
        · skip
          exact absurd rfl h4
        · skip
          refine go_iconstN (n := 0) (q := 85) dX4_sheet_84 rfl ?_
          refine go_goto (tgt := 89) dX4_sheet_85 (by decide) ?_
          refine go_xzst (q := 90) dX4_sheet_89 ht rfl ?_
          refine go_iconstN (n := 0) (q := 91) dX4_sheet_90 rfl ?_
          refine go_istore4 (q := 93) dX4_sheet_91 rfl (by decide) rfl ?_
          have hh := r_sheet_93 (S := S) (N := N) (X := (u3 (u3 X 3 6 t 0) 3 5 t 0)) (Y := Y) (Q := Q) (t := t) (n := n) (b := nI 0) (z := nI n) (r := 0) ht (u3_s _ _ _ _ _) (hO n hn rfl _ (by rw [u3_oth _ (by decide), u3_oth _ (by decide)]) (by rw [u3_oth _ (by decide), u3_oth _ (by decide)]) (u3_65 _ _ _ _) (by rw [u3_upf5]) (fun j h2 h3 h5 h6 => by rw [u3_othj _ h5, u3_othj _ h6])) 41 0 (by omega) (by omega)
          rw [zY_0] at hh
          exact hh
    · skip
      refine go_aloadn0 (q := 54) dX4_sheet_53 rfl ?_
      refine go_ldc (q := 56) dX4_sheet_54 ko_X4_42 rfl ?_
      refine go_ix1 (q := 59) dX4_sheet_56 lk_X4_57 (by decide) (by decide) (Nat.le_of_ble_eq_true rfl) rfl (r_finds (p := 0) (by decide) (by decide) ?_)
      exact go_iret dX4_sheet_59 rfl (hL (fun w => h2 (le40n w)) (ge0 h1) _ (Xf.rf 0))
  · skip
    refine go_aloadn0 (q := 41) dX4_sheet_40 rfl ?_
    refine go_ldc (q := 43) dX4_sheet_41 ko_X4_180 rfl ?_
    refine go_ix1 (q := 46) dX4_sheet_43 lk_X4_57 (by decide) (by decide) (Nat.le_of_ble_eq_true rfl) rfl (r_finds (p := 6) (by decide) (by decide) ?_)
    exact go_iret dX4_sheet_46 rfl (hZ (lt0 h1) _ (Xf.rf 6))

set_option maxHeartbeats 4000000 in
set_option maxRecDepth 100000 in
theorem r_sheet_36_8 {S : St} {N : Nat → Nat → Int64} {X : St} {Y : Nat → Int64} {Q : Option Value → AH → Prop} {t : Nat} {z : Int32} (ht : t < 4) (hZ : z.toInt < 0 → ∀ X', Xf X X' 6 → Q (some (.int (-1000000007))) (hp S N X' Y)) (hL : ¬ z.toInt ≤ 40 → 0 ≤ z.toInt → ∀ X', Xf X X' 0 → Q (some (.int (-1000000001))) (hp S N X' Y)) (hO : ∀ n, n ≤ 40 → z = nI n → ∀ X', X' 0 = X 0 → X' 1 = X 1 → X' 3 6 = upf (X 3 6) t 8 → X' 3 5 = upf (X 3 5) t n → (∀ j, j ≠ 2 → j ≠ 3 → j ≠ 5 → j ≠ 6 → X' 3 j = X 3 j) → Q (some (.int (nI n))) (hp S N X' (zY Y t 40))) : Go 3 RX4 cX4_sheet 5 (some .int) 36 [some (.ref 69), some (.int (nI t)), some (.int (nI 8)), some (.int z), none] [] (hp S N X Y) Q := by
  refine go_iloadn3 (q := 37) dX4_sheet_36 rfl ?_
  refine go_if_ge (tgt := 47) (q := 40) dX4_sheet_37 (by decide) rfl (fun h1 => ?_) (fun h1 => ?_)
  · skip
    refine go_iloadn3 (q := 48) dX4_sheet_47 rfl ?_
    refine go_bipushN (v := 40) (q := 50) dX4_sheet_48 (by decide) rfl ?_
    refine go_icmp_le (tgt := 60) (q := 53) dX4_sheet_50 (by decide) rfl (fun h2 => ?_) (fun h2 => ?_)
    · skip
      obtain ⟨n, hn, rfl, -, -⟩ := rg_nat (n := 40) (x := z) (l := 0) (h := 40) ⟨ge0 h1, le40 h2⟩ (by omega) (by omega)
      refine go_aloadn0 (q := 61) dX4_sheet_60 rfl ?_
      refine go_xg (q := 64) dX4_sheet_61 fl_X4_25 rfl rfl ?_
      refine go_iloadn1 (q := 65) dX4_sheet_64 rfl ?_
      refine go_iloadn2 (q := 66) dX4_sheet_65 rfl ?_
      refine go_if_neN (tgt := 73) (q := 69) dX4_sheet_66 (by decide) rfl (by omega) (fun h3 => ?_) (fun h3 => ?_)
      · skip
        refine go_iloadn2 (q := 74) dX4_sheet_73 rfl ?_
        refine go_st (st' := [.int (bitI 8), .int (nI t), .ref 75]) rfl ?_
        refine go_xbst (q := 75) dX4_sheet_74 ht rfl ?_
        refine go_aloadn0 (q := 76) dX4_sheet_75 rfl ?_
        refine go_xg (q := 79) dX4_sheet_76 fl_X4_28 rfl rfl ?_
        refine go_iloadn1 (q := 80) dX4_sheet_79 rfl ?_
        refine go_iloadn2 (q := 81) dX4_sheet_80 rfl ?_
        refine go_if_neN (tgt := 88) (q := 84) dX4_sheet_81 (by decide) rfl (by omega) (fun h4 => ?_) (fun h4 => ?_)
        · skip
          refine go_iloadn3 (q := 89) dX4_sheet_88 rfl ?_
          refine go_xzst (q := 90) dX4_sheet_89 ht rfl ?_
          refine go_iconstN (n := 0) (q := 91) dX4_sheet_90 rfl ?_
          refine go_istore4 (q := 93) dX4_sheet_91 rfl (by decide) rfl ?_
          have hh := r_sheet_93 (S := S) (N := N) (X := (u3 (u3 X 3 6 t 8) 3 5 t n)) (Y := Y) (Q := Q) (t := t) (n := n) (b := nI 8) (z := nI n) (r := n) ht (u3_s _ _ _ _ _) (hO n hn rfl _ (by rw [u3_oth _ (by decide), u3_oth _ (by decide)]) (by rw [u3_oth _ (by decide), u3_oth _ (by decide)]) (u3_65 _ _ _ _) (by rw [u3_upf5]) (fun j h2 h3 h5 h6 => by rw [u3_othj _ h5, u3_othj _ h6])) 41 0 (by omega) (by omega)
          rw [zY_0] at hh
          exact hh
        · skip
          exact absurd h4 (by decide)
      · skip
        exact absurd h3 (by decide)
    · skip
      refine go_aloadn0 (q := 54) dX4_sheet_53 rfl ?_
      refine go_ldc (q := 56) dX4_sheet_54 ko_X4_42 rfl ?_
      refine go_ix1 (q := 59) dX4_sheet_56 lk_X4_57 (by decide) (by decide) (Nat.le_of_ble_eq_true rfl) rfl (r_finds (p := 0) (by decide) (by decide) ?_)
      exact go_iret dX4_sheet_59 rfl (hL (fun w => h2 (le40n w)) (ge0 h1) _ (Xf.rf 0))
  · skip
    refine go_aloadn0 (q := 41) dX4_sheet_40 rfl ?_
    refine go_ldc (q := 43) dX4_sheet_41 ko_X4_180 rfl ?_
    refine go_ix1 (q := 46) dX4_sheet_43 lk_X4_57 (by decide) (by decide) (Nat.le_of_ble_eq_true rfl) rfl (r_finds (p := 6) (by decide) (by decide) ?_)
    exact go_iret dX4_sheet_46 rfl (hZ (lt0 h1) _ (Xf.rf 6))

set_option maxHeartbeats 4000000 in
set_option maxRecDepth 100000 in
theorem r_sheet_36_16 {S : St} {N : Nat → Nat → Int64} {X : St} {Y : Nat → Int64} {Q : Option Value → AH → Prop} {t : Nat} {z : Int32} (ht : t < 4) (hZ : z.toInt < 0 → ∀ X', Xf X X' 6 → Q (some (.int (-1000000007))) (hp S N X' Y)) (hL : ¬ z.toInt ≤ 40 → 0 ≤ z.toInt → ∀ X', Xf X X' 0 → Q (some (.int (-1000000001))) (hp S N X' Y)) (hO : ∀ n, n ≤ 40 → z = nI n → ∀ X', X' 0 = X 0 → X' 1 = X 1 → X' 3 6 = upf (X 3 6) t 16 → X' 3 5 = upf (X 3 5) t n → (∀ j, j ≠ 2 → j ≠ 3 → j ≠ 5 → j ≠ 6 → X' 3 j = X 3 j) → Q (some (.int (nI n))) (hp S N X' (zY Y t 40))) : Go 3 RX4 cX4_sheet 5 (some .int) 36 [some (.ref 69), some (.int (nI t)), some (.int (nI 16)), some (.int z), none] [] (hp S N X Y) Q := by
  refine go_iloadn3 (q := 37) dX4_sheet_36 rfl ?_
  refine go_if_ge (tgt := 47) (q := 40) dX4_sheet_37 (by decide) rfl (fun h1 => ?_) (fun h1 => ?_)
  · skip
    refine go_iloadn3 (q := 48) dX4_sheet_47 rfl ?_
    refine go_bipushN (v := 40) (q := 50) dX4_sheet_48 (by decide) rfl ?_
    refine go_icmp_le (tgt := 60) (q := 53) dX4_sheet_50 (by decide) rfl (fun h2 => ?_) (fun h2 => ?_)
    · skip
      obtain ⟨n, hn, rfl, -, -⟩ := rg_nat (n := 40) (x := z) (l := 0) (h := 40) ⟨ge0 h1, le40 h2⟩ (by omega) (by omega)
      refine go_aloadn0 (q := 61) dX4_sheet_60 rfl ?_
      refine go_xg (q := 64) dX4_sheet_61 fl_X4_25 rfl rfl ?_
      refine go_iloadn1 (q := 65) dX4_sheet_64 rfl ?_
      refine go_iloadn2 (q := 66) dX4_sheet_65 rfl ?_
      refine go_if_neN (tgt := 73) (q := 69) dX4_sheet_66 (by decide) rfl (by omega) (fun h3 => ?_) (fun h3 => ?_)
      · skip
        refine go_iloadn2 (q := 74) dX4_sheet_73 rfl ?_
        refine go_st (st' := [.int (bitI 16), .int (nI t), .ref 75]) rfl ?_
        refine go_xbst (q := 75) dX4_sheet_74 ht rfl ?_
        refine go_aloadn0 (q := 76) dX4_sheet_75 rfl ?_
        refine go_xg (q := 79) dX4_sheet_76 fl_X4_28 rfl rfl ?_
        refine go_iloadn1 (q := 80) dX4_sheet_79 rfl ?_
        refine go_iloadn2 (q := 81) dX4_sheet_80 rfl ?_
        refine go_if_neN (tgt := 88) (q := 84) dX4_sheet_81 (by decide) rfl (by omega) (fun h4 => ?_) (fun h4 => ?_)
        · skip
          refine go_iloadn3 (q := 89) dX4_sheet_88 rfl ?_
          refine go_xzst (q := 90) dX4_sheet_89 ht rfl ?_
          refine go_iconstN (n := 0) (q := 91) dX4_sheet_90 rfl ?_
          refine go_istore4 (q := 93) dX4_sheet_91 rfl (by decide) rfl ?_
          have hh := r_sheet_93 (S := S) (N := N) (X := (u3 (u3 X 3 6 t 16) 3 5 t n)) (Y := Y) (Q := Q) (t := t) (n := n) (b := nI 16) (z := nI n) (r := n) ht (u3_s _ _ _ _ _) (hO n hn rfl _ (by rw [u3_oth _ (by decide), u3_oth _ (by decide)]) (by rw [u3_oth _ (by decide), u3_oth _ (by decide)]) (u3_65 _ _ _ _) (by rw [u3_upf5]) (fun j h2 h3 h5 h6 => by rw [u3_othj _ h5, u3_othj _ h6])) 41 0 (by omega) (by omega)
          rw [zY_0] at hh
          exact hh
        · skip
          exact absurd h4 (by decide)
      · skip
        exact absurd h3 (by decide)
    · skip
      refine go_aloadn0 (q := 54) dX4_sheet_53 rfl ?_
      refine go_ldc (q := 56) dX4_sheet_54 ko_X4_42 rfl ?_
      refine go_ix1 (q := 59) dX4_sheet_56 lk_X4_57 (by decide) (by decide) (Nat.le_of_ble_eq_true rfl) rfl (r_finds (p := 0) (by decide) (by decide) ?_)
      exact go_iret dX4_sheet_59 rfl (hL (fun w => h2 (le40n w)) (ge0 h1) _ (Xf.rf 0))
  · skip
    refine go_aloadn0 (q := 41) dX4_sheet_40 rfl ?_
    refine go_ldc (q := 43) dX4_sheet_41 ko_X4_180 rfl ?_
    refine go_ix1 (q := 46) dX4_sheet_43 lk_X4_57 (by decide) (by decide) (Nat.le_of_ble_eq_true rfl) rfl (r_finds (p := 6) (by decide) (by decide) ?_)
    exact go_iret dX4_sheet_46 rfl (hZ (lt0 h1) _ (Xf.rf 6))

set_option maxHeartbeats 4000000 in
set_option maxRecDepth 100000 in
theorem r_sheet_36_64 {S : St} {N : Nat → Nat → Int64} {X : St} {Y : Nat → Int64} {Q : Option Value → AH → Prop} {t : Nat} {z : Int32} (ht : t < 4) (hZ : z.toInt < 0 → ∀ X', Xf X X' 6 → Q (some (.int (-1000000007))) (hp S N X' Y)) (hL : ¬ z.toInt ≤ 40 → 0 ≤ z.toInt → ∀ X', Xf X X' 0 → Q (some (.int (-1000000001))) (hp S N X' Y)) (hO : ∀ n, n ≤ 40 → z = nI n → ∀ X', X' 0 = X 0 → X' 1 = X 1 → X' 3 6 = upf (X 3 6) t 64 → X' 3 5 = upf (X 3 5) t n → (∀ j, j ≠ 2 → j ≠ 3 → j ≠ 5 → j ≠ 6 → X' 3 j = X 3 j) → Q (some (.int (nI n))) (hp S N X' (zY Y t 40))) : Go 3 RX4 cX4_sheet 5 (some .int) 36 [some (.ref 69), some (.int (nI t)), some (.int (nI 64)), some (.int z), none] [] (hp S N X Y) Q := by
  refine go_iloadn3 (q := 37) dX4_sheet_36 rfl ?_
  refine go_if_ge (tgt := 47) (q := 40) dX4_sheet_37 (by decide) rfl (fun h1 => ?_) (fun h1 => ?_)
  · skip
    refine go_iloadn3 (q := 48) dX4_sheet_47 rfl ?_
    refine go_bipushN (v := 40) (q := 50) dX4_sheet_48 (by decide) rfl ?_
    refine go_icmp_le (tgt := 60) (q := 53) dX4_sheet_50 (by decide) rfl (fun h2 => ?_) (fun h2 => ?_)
    · skip
      obtain ⟨n, hn, rfl, -, -⟩ := rg_nat (n := 40) (x := z) (l := 0) (h := 40) ⟨ge0 h1, le40 h2⟩ (by omega) (by omega)
      refine go_aloadn0 (q := 61) dX4_sheet_60 rfl ?_
      refine go_xg (q := 64) dX4_sheet_61 fl_X4_25 rfl rfl ?_
      refine go_iloadn1 (q := 65) dX4_sheet_64 rfl ?_
      refine go_iloadn2 (q := 66) dX4_sheet_65 rfl ?_
      refine go_if_neN (tgt := 73) (q := 69) dX4_sheet_66 (by decide) rfl (by omega) (fun h3 => ?_) (fun h3 => ?_)
      · skip
        refine go_iloadn2 (q := 74) dX4_sheet_73 rfl ?_
        refine go_st (st' := [.int (bitI 64), .int (nI t), .ref 75]) rfl ?_
        refine go_xbst (q := 75) dX4_sheet_74 ht rfl ?_
        refine go_aloadn0 (q := 76) dX4_sheet_75 rfl ?_
        refine go_xg (q := 79) dX4_sheet_76 fl_X4_28 rfl rfl ?_
        refine go_iloadn1 (q := 80) dX4_sheet_79 rfl ?_
        refine go_iloadn2 (q := 81) dX4_sheet_80 rfl ?_
        refine go_if_neN (tgt := 88) (q := 84) dX4_sheet_81 (by decide) rfl (by omega) (fun h4 => ?_) (fun h4 => ?_)
        · skip
          refine go_iloadn3 (q := 89) dX4_sheet_88 rfl ?_
          refine go_xzst (q := 90) dX4_sheet_89 ht rfl ?_
          refine go_iconstN (n := 0) (q := 91) dX4_sheet_90 rfl ?_
          refine go_istore4 (q := 93) dX4_sheet_91 rfl (by decide) rfl ?_
          have hh := r_sheet_93 (S := S) (N := N) (X := (u3 (u3 X 3 6 t 64) 3 5 t n)) (Y := Y) (Q := Q) (t := t) (n := n) (b := nI 64) (z := nI n) (r := n) ht (u3_s _ _ _ _ _) (hO n hn rfl _ (by rw [u3_oth _ (by decide), u3_oth _ (by decide)]) (by rw [u3_oth _ (by decide), u3_oth _ (by decide)]) (u3_65 _ _ _ _) (by rw [u3_upf5]) (fun j h2 h3 h5 h6 => by rw [u3_othj _ h5, u3_othj _ h6])) 41 0 (by omega) (by omega)
          rw [zY_0] at hh
          exact hh
        · skip
          exact absurd h4 (by decide)
      · skip
        exact absurd h3 (by decide)
    · skip
      refine go_aloadn0 (q := 54) dX4_sheet_53 rfl ?_
      refine go_ldc (q := 56) dX4_sheet_54 ko_X4_42 rfl ?_
      refine go_ix1 (q := 59) dX4_sheet_56 lk_X4_57 (by decide) (by decide) (Nat.le_of_ble_eq_true rfl) rfl (r_finds (p := 0) (by decide) (by decide) ?_)
      exact go_iret dX4_sheet_59 rfl (hL (fun w => h2 (le40n w)) (ge0 h1) _ (Xf.rf 0))
  · skip
    refine go_aloadn0 (q := 41) dX4_sheet_40 rfl ?_
    refine go_ldc (q := 43) dX4_sheet_41 ko_X4_180 rfl ?_
    refine go_ix1 (q := 46) dX4_sheet_43 lk_X4_57 (by decide) (by decide) (Nat.le_of_ble_eq_true rfl) rfl (r_finds (p := 6) (by decide) (by decide) ?_)
    exact go_iret dX4_sheet_46 rfl (hZ (lt0 h1) _ (Xf.rf 6))

set_option maxHeartbeats 4000000 in
set_option maxRecDepth 100000 in
theorem r_sheet {S : St} {N : Nat → Nat → Int64} {X : St} {Y : Nat → Int64} {Q : Option Value → AH → Prop} {x b z : Int32} (hB : ¬ (rg x 0 3 ∧ (b = nI 0 ∨ b = nI 8 ∨ b = nI 16 ∨ b = nI 64)) → ∀ X', Xf X X' 0 → Q (some (.int (-1000000001))) (hp S N X' Y)) (hZ : (rg x 0 3 ∧ (b = nI 0 ∨ b = nI 8 ∨ b = nI 16 ∨ b = nI 64)) → z.toInt < 0 → ∀ X', Xf X X' 6 → Q (some (.int (-1000000007))) (hp S N X' Y)) (hL : (rg x 0 3 ∧ (b = nI 0 ∨ b = nI 8 ∨ b = nI 16 ∨ b = nI 64)) → ¬ z.toInt ≤ 40 → 0 ≤ z.toInt → ∀ X', Xf X X' 0 → Q (some (.int (-1000000001))) (hp S N X' Y)) (hO : ∀ t c n, t < 4 → okB c → n ≤ 40 → x = nI t → b = nI c → z = nI n → ∀ X', X' 0 = X 0 → X' 1 = X 1 → X' 3 6 = upf (X 3 6) t c → X' 3 5 = upf (X 3 5) t (if c = 0 then 0 else n) → (∀ j, j ≠ 2 → j ≠ 3 → j ≠ 5 → j ≠ 6 → X' 3 j = X 3 j) → Q (some (.int (nI (if c = 0 then 0 else n)))) (hp S N X' (zY Y t 40))) : Cn 3 yX4_sheet cX4_sheet 5 (some .int) [.ref 69, .int x, .int b, .int z] (hp S N X Y) Q := by
  refine cn_of (own := RX4) (lo := [some (.ref 69), some (.int x), some (.int b), some (.int z), none]) 1 rfl (by decide +kernel) rfl (Nat.le_of_ble_eq_true rfl) ?_
  refine go_iloadn1 (q := 1) dX4_sheet_0 rfl ?_
  refine go_is1_ (q := 4) dX4_sheet_1 lk_X4_253 (by decide) (by decide) (Nat.le_of_ble_eq_true rfl) rfl (r_isSheet ?_)
  refine go_ifeqB (tgt := 29) (q := 7) dX4_sheet_4 (by decide) rfl (fun h1 => ?_) (fun h1 => ?_)
  · skip
    refine go_aloadn0 (q := 30) dX4_sheet_29 rfl ?_
    refine go_ldc (q := 32) dX4_sheet_30 ko_X4_42 rfl ?_
    refine go_ix1 (q := 35) dX4_sheet_32 lk_X4_57 (by decide) (by decide) (Nat.le_of_ble_eq_true rfl) rfl (r_finds (p := 0) (by decide) (by decide) ?_)
    exact go_iret dX4_sheet_35 rfl (hB (fun w => h1 w.1) _ (Xf.rf 0))
  · skip
    refine go_iloadn2 (q := 8) dX4_sheet_7 rfl ?_
    refine go_if_eq (tgt := 36) (q := 11) dX4_sheet_8 (by decide) rfl (fun h2 => ?_) (fun h2 => ?_)
    · skip
      obtain ⟨t, ht3, rfl, -, -⟩ := rg_nat (n := 3) h1 (by omega) (by omega)
      obtain rfl : b = nI 0 := h2
      exact r_sheet_36_0 (show t < 4 by omega) (hZ ⟨h1, by simp⟩) (hL ⟨h1, by simp⟩) (fun n hn e => hO t 0 n (by omega) (by unfold okB; omega) hn rfl rfl e)
    · skip
      refine go_iloadn2 (q := 12) dX4_sheet_11 rfl ?_
      refine go_bipushN (v := 8) (q := 14) dX4_sheet_12 (by decide) rfl ?_
      refine go_icmp_eq (tgt := 36) (q := 17) dX4_sheet_14 (by decide) rfl (fun h3 => ?_) (fun h3 => ?_)
      · skip
        obtain ⟨t, ht3, rfl, -, -⟩ := rg_nat (n := 3) h1 (by omega) (by omega)
        obtain rfl : b = nI 8 := h3
        exact r_sheet_36_8 (show t < 4 by omega) (hZ ⟨h1, by simp⟩) (hL ⟨h1, by simp⟩) (fun n hn e => hO t 8 n (by omega) (by unfold okB; omega) hn rfl rfl e)
      · skip
        refine go_iloadn2 (q := 18) dX4_sheet_17 rfl ?_
        refine go_bipushN (v := 16) (q := 20) dX4_sheet_18 (by decide) rfl ?_
        refine go_icmp_eq (tgt := 36) (q := 23) dX4_sheet_20 (by decide) rfl (fun h4 => ?_) (fun h4 => ?_)
        · skip
          obtain ⟨t, ht3, rfl, -, -⟩ := rg_nat (n := 3) h1 (by omega) (by omega)
          obtain rfl : b = nI 16 := h4
          exact r_sheet_36_16 (show t < 4 by omega) (hZ ⟨h1, by simp⟩) (hL ⟨h1, by simp⟩) (fun n hn e => hO t 16 n (by omega) (by unfold okB; omega) hn rfl rfl e)
        · skip
          refine go_iloadn2 (q := 24) dX4_sheet_23 rfl ?_
          refine go_bipushN (v := 64) (q := 26) dX4_sheet_24 (by decide) rfl ?_
          refine go_icmp_eq (tgt := 36) (q := 29) dX4_sheet_26 (by decide) rfl (fun h7 => ?_) (fun h7 => ?_)
          · skip
            obtain ⟨t, ht3, rfl, -, -⟩ := rg_nat (n := 3) h1 (by omega) (by omega)
            obtain rfl : b = nI 64 := h7
            exact r_sheet_36_64 (show t < 4 by omega) (hZ ⟨h1, by simp⟩) (hL ⟨h1, by simp⟩) (fun n hn e => hO t 64 n (by omega) (by unfold okB; omega) hn rfl rfl e)
          · skip
            refine go_aloadn0 (q := 30) dX4_sheet_29 rfl ?_
            refine go_ldc (q := 32) dX4_sheet_30 ko_X4_42 rfl ?_
            refine go_ix1 (q := 35) dX4_sheet_32 lk_X4_57 (by decide) (by decide) (Nat.le_of_ble_eq_true rfl) rfl (r_finds (p := 0) (by decide) (by decide) ?_)
            exact go_iret dX4_sheet_35 rfl (hB (fun w => by rcases w.2 with q | q | q | q; exact h2 q; exact h3 q; exact h4 q; exact h7 q) _ (Xf.rf 0))
