theorem subL_le {L : Nat} {f z : Int32} (hL : L ≤ 40) (hf : 0 ≤ f.toInt) : z ≤ nI L - f ↔ z.toInt + f.toInt ≤ (L : Int) := by
  rw [Int32.le_iff_toInt_le, sub_len hL hf]
  omega
theorem bitI_inj {a b : Nat} (ha : a ≤ 64) (hb : b ≤ 64) (h : bitI a = bitI b) : a = b :=
  (by decide +kernel : ∀ a, a < 65 → ∀ b, b < 65 → bitI a = bitI b → a = b) a (by omega) b (by omega) h
/-- the numbers from l on below n come from a to b -/
def cpY (Y : Nat → Int64) (a b l n : Nat) : Nat → Int64 := fun i => if b + l ≤ i ∧ i < b + n then Y (a + (i - b)) else Y i
theorem cpY_n (Y : Nat → Int64) (a b : Nat) {l n : Nat} (h : n ≤ l) : cpY Y a b l n = Y := by
  funext i
  unfold cpY
  rw [if_neg (by omega)]
theorem cpY_u {Y : Nat → Int64} {a b k : Nat} (h : b ≤ a) : vp_updL (cpY Y a b 0 k) (b + k) (cpY Y a b 0 k (a + k)) = cpY Y a b 0 (k + 1) := by
  funext i
  unfold vp_updL cpY
  by_cases e : i = b + k
  · rw [if_pos e, if_neg (by omega), if_pos (by omega), show a + (i - b) = a + k by omega]
  · rw [if_neg e]
    by_cases h2 : b + 0 ≤ i ∧ i < b + k
    · rw [if_pos h2, if_pos (by omega)]
    · rw [if_neg h2, if_neg (by omega)]
theorem cpY_d {Y : Nat → Int64} {a b n k : Nat} (h : a < b) (hk : k < n) : vp_updL (cpY Y a b (n - k) n) (b + (n - 1 - k)) (cpY Y a b (n - k) n (a + (n - 1 - k))) = cpY Y a b (n - (k + 1)) n := by
  funext i
  unfold vp_updL cpY
  by_cases e : i = b + (n - 1 - k)
  · rw [if_pos e, if_neg (by omega), if_pos (by omega), show a + (i - b) = a + (n - 1 - k) by omega]
  · rw [if_neg e]
    by_cases h2 : b + (n - k) ≤ i ∧ i < b + n
    · rw [if_pos h2, if_pos (by omega)]
    · rw [if_neg h2, if_neg (by omega)]

set_option maxHeartbeats 4000000 in
set_option maxRecDepth 100000 in
theorem r_copy_137u {S : St} {N : Nat → Nat → Int64} {X : St} {Y : Nat → Int64} {Q : Option Value → AH → Prop} {t u f g n a b : Nat} (hc : ¬ a < b) (ha : a + n ≤ 160) (hb : b + n ≤ 160) (hQ : Q (some (.int (nI n))) (hp S N X (cpY Y a b 0 n))) : ∀ (fu : Nat) (k : Nat) (c : Option Value), n - k < fu → (k ≤ n) → Go 3 RX4 cX4_copy 10 (some .int) 137 [some (.ref 69), some (.int (nI t)), some (.int (nI f)), some (.int (nI u)), some (.int (nI g)), some (.int (nI n)), some (.int (nI a)), some (.int (nI b)), some (.int (nI k)), c] [] (hp S N X (cpY Y a b 0 k)) Q := by
  intro fu
  induction fu with
  | zero => intro k c hfu; exact absurd hfu (Nat.not_lt_zero _)
  | succ fu ih =>
    intro k c hfu hk
    refine go_iload8 (q := 139) dX4_copy_137 rfl ?_
    refine go_iload5 (q := 141) dX4_copy_139 rfl ?_
    refine go_icmp_geN (tgt := 191) (q := 144) dX4_copy_141 (by decide) rfl (by omega) (by omega) (fun h1 => ?_) (fun h1 => ?_)
    · skip
      refine go_iload5 (q := 193) dX4_copy_191 rfl ?_
      exact go_iret dX4_copy_193 rfl (by rw [show k = n by omega] ; exact hQ)
    · skip
      refine go_iload6 (q := 146) dX4_copy_144 rfl ?_
      refine go_iload7 (q := 148) dX4_copy_146 rfl ?_
      refine go_icmp_geN (tgt := 161) (q := 151) dX4_copy_148 (by decide) rfl (by omega) (by omega) (fun h2 => ?_) (fun h2 => ?_)
      · skip
        refine go_iload8 (q := 163) dX4_copy_161 rfl ?_
        refine go_istore9 (q := 165) dX4_copy_163 rfl (by decide) rfl ?_
        refine go_aloadn0 (q := 166) dX4_copy_165 rfl ?_
        refine go_xg (q := 169) dX4_copy_166 fl_X4_31 rfl rfl ?_
        refine go_iload7 (q := 171) dX4_copy_169 rfl ?_
        refine go_iload9 (q := 173) dX4_copy_171 rfl ?_
        refine go_iaddN (q := 174) dX4_copy_173 rfl ?_
        refine go_aloadn0 (q := 175) dX4_copy_174 rfl ?_
        refine go_xg (q := 178) dX4_copy_175 fl_X4_31 rfl rfl ?_
        refine go_iload6 (q := 180) dX4_copy_178 rfl ?_
        refine go_iload9 (q := 182) dX4_copy_180 rfl ?_
        refine go_iaddN (q := 183) dX4_copy_182 rfl ?_
        refine go_xlld (q := 184) dX4_copy_183 (show a + k < 160 by omega) rfl ?_
        refine go_xlst (q := 185) dX4_copy_184 (show b + k < 160 by omega) rfl ?_
        rw [cpY_u (by omega)]
        refine go_iincN8 (n := 1) (q := 188) dX4_copy_185 rfl (by decide) rfl ?_
        refine go_goto (tgt := 137) dX4_copy_188 (by decide) ?_
        exact ih (k + 1) _ (by omega) (by omega)
      · skip
        exact absurd h2 (by omega)

set_option maxHeartbeats 4000000 in
set_option maxRecDepth 100000 in
theorem r_copy_137d {S : St} {N : Nat → Nat → Int64} {X : St} {Y : Nat → Int64} {Q : Option Value → AH → Prop} {t u f g n a b : Nat} (hc : a < b) (ha : a + n ≤ 160) (hb : b + n ≤ 160) (hQ : Q (some (.int (nI n))) (hp S N X (cpY Y a b 0 n))) : ∀ (fu : Nat) (k : Nat) (c : Option Value), n - k < fu → (k ≤ n) → Go 3 RX4 cX4_copy 10 (some .int) 137 [some (.ref 69), some (.int (nI t)), some (.int (nI f)), some (.int (nI u)), some (.int (nI g)), some (.int (nI n)), some (.int (nI a)), some (.int (nI b)), some (.int (nI k)), c] [] (hp S N X (cpY Y a b (n - k) n)) Q := by
  intro fu
  induction fu with
  | zero => intro k c hfu; exact absurd hfu (Nat.not_lt_zero _)
  | succ fu ih =>
    intro k c hfu hk
    refine go_iload8 (q := 139) dX4_copy_137 rfl ?_
    refine go_iload5 (q := 141) dX4_copy_139 rfl ?_
    refine go_icmp_geN (tgt := 191) (q := 144) dX4_copy_141 (by decide) rfl (by omega) (by omega) (fun h1 => ?_) (fun h1 => ?_)
    · skip
      refine go_iload5 (q := 193) dX4_copy_191 rfl ?_
      exact go_iret dX4_copy_193 rfl (by rw [show n - k = 0 by omega] ; exact hQ)
    · skip
      refine go_iload6 (q := 146) dX4_copy_144 rfl ?_
      refine go_iload7 (q := 148) dX4_copy_146 rfl ?_
      refine go_icmp_geN (tgt := 161) (q := 151) dX4_copy_148 (by decide) rfl (by omega) (by omega) (fun h2 => ?_) (fun h2 => ?_)
      · skip
        exact absurd h2 (by omega)
      · skip
        refine go_iload5 (q := 153) dX4_copy_151 rfl ?_
        refine go_iconstN (n := 1) (q := 154) dX4_copy_153 rfl ?_
        refine go_isubN (q := 155) dX4_copy_154 (show 1 ≤ n by omega) rfl ?_
        refine go_iload8 (q := 157) dX4_copy_155 rfl ?_
        refine go_isubN (q := 158) dX4_copy_157 (by omega) rfl ?_
        refine go_goto (tgt := 163) dX4_copy_158 (by decide) ?_
        refine go_istore9 (q := 165) dX4_copy_163 rfl (by decide) rfl ?_
        refine go_aloadn0 (q := 166) dX4_copy_165 rfl ?_
        refine go_xg (q := 169) dX4_copy_166 fl_X4_31 rfl rfl ?_
        refine go_iload7 (q := 171) dX4_copy_169 rfl ?_
        refine go_iload9 (q := 173) dX4_copy_171 rfl ?_
        refine go_iaddN (q := 174) dX4_copy_173 rfl ?_
        refine go_aloadn0 (q := 175) dX4_copy_174 rfl ?_
        refine go_xg (q := 178) dX4_copy_175 fl_X4_31 rfl rfl ?_
        refine go_iload6 (q := 180) dX4_copy_178 rfl ?_
        refine go_iload9 (q := 182) dX4_copy_180 rfl ?_
        refine go_iaddN (q := 183) dX4_copy_182 rfl ?_
        refine go_xlld (q := 184) dX4_copy_183 (show a + (n - 1 - k) < 160 by omega) rfl ?_
        refine go_xlst (q := 185) dX4_copy_184 (show b + (n - 1 - k) < 160 by omega) rfl ?_
        rw [cpY_d (by omega) (by omega)]
        refine go_iincN8 (n := 1) (q := 188) dX4_copy_185 rfl (by decide) rfl ?_
        refine go_goto (tgt := 137) dX4_copy_188 (by decide) ?_
        exact ih (k + 1) _ (by omega) (by omega)

set_option maxHeartbeats 4000000 in
set_option maxRecDepth 100000 in
theorem r_copy {S : St} {N : Nat → Nat → Int64} {X : St} {Y : Nat → Int64} {Q : Option Value → AH → Prop} {x f y g z : Int32} (hsh : ∀ t, t < 4 → okB (X 3 6 t) ∧ X 3 5 t ≤ 40) (hB : ¬ (rg x 0 3 ∧ rg y 0 3) → ∀ X', Xf X X' 0 → Q (some (.int (-1000000001))) (hp S N X' Y)) (hM : ∀ t u, t < 4 → u < 4 → x = nI t → y = nI u → ¬ (X 3 6 t ≠ 0 ∧ X 3 6 u ≠ 0) → ∀ X', Xf X X' 5 → Q (some (.int (-1000000006))) (hp S N X' Y)) (hK : ∀ t u, t < 4 → u < 4 → x = nI t → y = nI u → (X 3 6 t ≠ 0 ∧ X 3 6 u ≠ 0) → X 3 6 t ≠ X 3 6 u → ∀ X', Xf X X' 2 → Q (some (.int (-1000000003))) (hp S N X' Y)) (hL : ∀ t u, t < 4 → u < 4 → x = nI t → y = nI u → (X 3 6 t ≠ 0 ∧ X 3 6 u ≠ 0) → X 3 6 t = X 3 6 u → ¬ (hrn (X 3 5 t) f z ∧ hrn (X 3 5 u) g z) → ∀ X', Xf X X' 0 → Q (some (.int (-1000000001))) (hp S N X' Y)) (hO : ∀ t u, t < 4 → u < 4 → x = nI t → y = nI u → (X 3 6 t ≠ 0 ∧ X 3 6 u ≠ 0) → X 3 6 t = X 3 6 u → ∀ a b n, f = nI a → g = nI b → z = nI n → a + n ≤ X 3 5 t → b + n ≤ X 3 5 u → Q (some (.int (nI n))) (hp S N X (cpY Y (40 * t + a) (40 * u + b) 0 n))) : Cn 3 yX4_copy cX4_copy 10 (some .int) [.ref 69, .int x, .int f, .int y, .int g, .int z] (hp S N X Y) Q := by
  refine cn_of (own := RX4) (lo := [some (.ref 69), some (.int x), some (.int f), some (.int y), some (.int g), some (.int z), none, none, none, none]) 4 rfl (by decide +kernel) rfl (Nat.le_of_ble_eq_true rfl) ?_
  refine go_iloadn1 (q := 1) dX4_copy_0 rfl ?_
  refine go_is1_ (q := 4) dX4_copy_1 lk_X4_253 (by decide) (by decide) (Nat.le_of_ble_eq_true rfl) rfl (r_isSheet ?_)
  refine go_ifeqB (tgt := 14) (q := 7) dX4_copy_4 (by decide) rfl (fun h1 => ?_) (fun h1 => ?_)
  · skip
    refine go_aloadn0 (q := 15) dX4_copy_14 rfl ?_
    refine go_ldc (q := 17) dX4_copy_15 ko_X4_42 rfl ?_
    refine go_ix1 (q := 20) dX4_copy_17 lk_X4_57 (by decide) (by decide) (Nat.le_of_ble_eq_true rfl) rfl (r_finds (p := 0) (by decide) (by decide) ?_)
    exact go_iret dX4_copy_20 rfl (hB (fun w => h1 w.1) _ (Xf.rf 0))
  · skip
    refine go_iloadn3 (q := 8) dX4_copy_7 rfl ?_
    refine go_is1_ (q := 11) dX4_copy_8 lk_X4_253 (by decide) (by decide) (Nat.le_of_ble_eq_true rfl) rfl (r_isSheet ?_)
    refine go_ifneB (tgt := 21) (q := 14) dX4_copy_11 (by decide) rfl (fun h2 => ?_) (fun h2 => ?_)
    · skip
      obtain ⟨t, ht3, rfl, -, -⟩ := rg_nat (n := 3) h1 (by omega) (by omega)
      obtain ⟨u, hu3, rfl, -, -⟩ := rg_nat (n := 3) h2 (by omega) (by omega)
      have ht : t < 4 := by omega
      have hu : u < 4 := by omega
      obtain ⟨b1, l1⟩ := hsh t ht
      obtain ⟨b2, l2⟩ := hsh u hu
      have c1 : X 3 6 t ≤ 64 := by unfold okB at b1; omega
      have c2 : X 3 6 u ≤ 64 := by unfold okB at b2; omega
      refine go_aloadn0 (q := 22) dX4_copy_21 rfl ?_
      refine go_xg (q := 25) dX4_copy_22 fl_X4_25 rfl rfl ?_
      refine go_iloadn1 (q := 26) dX4_copy_25 rfl ?_
      refine go_xbld (q := 27) dX4_copy_26 ht rfl ?_
      refine go_if_lt (tgt := 39) (q := 30) dX4_copy_27 (by decide) rfl (fun h3 => ?_) (fun h3 => ?_)
      · skip
        refine go_aloadn0 (q := 40) dX4_copy_39 rfl ?_
        refine go_ldcw (q := 43) dX4_copy_40 ko_X4_256 rfl ?_
        refine go_ix1 (q := 46) dX4_copy_43 lk_X4_57 (by decide) (by decide) (Nat.le_of_ble_eq_true rfl) rfl (r_finds (p := 5) (by decide) (by decide) ?_)
        exact go_iret dX4_copy_46 rfl (hM t u ht hu rfl rfl (fun w => absurd h3 (Int32.not_lt.mpr ((bitI_ge c1).mpr w.1))) _ (Xf.rf 5))
      · skip
        have n1 := (bitI_ge c1).mp (Int32.not_lt.mp h3)
        refine go_aloadn0 (q := 31) dX4_copy_30 rfl ?_
        refine go_xg (q := 34) dX4_copy_31 fl_X4_25 rfl rfl ?_
        refine go_iloadn3 (q := 35) dX4_copy_34 rfl ?_
        refine go_xbld (q := 36) dX4_copy_35 hu rfl ?_
        refine go_if_ge (tgt := 47) (q := 39) dX4_copy_36 (by decide) rfl (fun h4 => ?_) (fun h4 => ?_)
        · skip
          have n2 := (bitI_ge c2).mp h4
          refine go_aloadn0 (q := 48) dX4_copy_47 rfl ?_
          refine go_xg (q := 51) dX4_copy_48 fl_X4_25 rfl rfl ?_
          refine go_iloadn1 (q := 52) dX4_copy_51 rfl ?_
          refine go_xbld (q := 53) dX4_copy_52 ht rfl ?_
          refine go_aloadn0 (q := 54) dX4_copy_53 rfl ?_
          refine go_xg (q := 57) dX4_copy_54 fl_X4_25 rfl rfl ?_
          refine go_iloadn3 (q := 58) dX4_copy_57 rfl ?_
          refine go_xbld (q := 59) dX4_copy_58 hu rfl ?_
          refine go_icmp_eq (tgt := 69) (q := 62) dX4_copy_59 (by decide) rfl (fun h5 => ?_) (fun h5 => ?_)
          · skip
            replace h5 := bitI_inj c1 c2 h5
            refine go_iloadn2 (q := 70) dX4_copy_69 rfl ?_
            refine go_if_lt (tgt := 110) (q := 73) dX4_copy_70 (by decide) rfl (fun h6 => ?_) (fun h6 => ?_)
            · skip
              refine go_aloadn0 (q := 111) dX4_copy_110 rfl ?_
              refine go_ldc (q := 113) dX4_copy_111 ko_X4_42 rfl ?_
              refine go_ix1 (q := 116) dX4_copy_113 lk_X4_57 (by decide) (by decide) (Nat.le_of_ble_eq_true rfl) rfl (r_finds (p := 0) (by decide) (by decide) ?_)
              exact go_iret dX4_copy_116 rfl (hL t u ht hu rfl rfl ⟨n1, n2⟩ h5 (fun w => absurd (lt0n h6) (by have := w.1.1; omega)) _ (Xf.rf 0))
            · skip
              refine go_iload4 (q := 75) dX4_copy_73 rfl ?_
              refine go_if_lt (tgt := 110) (q := 78) dX4_copy_75 (by decide) rfl (fun h7 => ?_) (fun h7 => ?_)
              · skip
                refine go_aloadn0 (q := 111) dX4_copy_110 rfl ?_
                refine go_ldc (q := 113) dX4_copy_111 ko_X4_42 rfl ?_
                refine go_ix1 (q := 116) dX4_copy_113 lk_X4_57 (by decide) (by decide) (Nat.le_of_ble_eq_true rfl) rfl (r_finds (p := 0) (by decide) (by decide) ?_)
                exact go_iret dX4_copy_116 rfl (hL t u ht hu rfl rfl ⟨n1, n2⟩ h5 (fun w => absurd (lt0n h7) (by have := w.2.1; omega)) _ (Xf.rf 0))
              · skip
                refine go_iload5 (q := 80) dX4_copy_78 rfl ?_
                refine go_if_lt (tgt := 110) (q := 83) dX4_copy_80 (by decide) rfl (fun h8 => ?_) (fun h8 => ?_)
                · skip
                  refine go_aloadn0 (q := 111) dX4_copy_110 rfl ?_
                  refine go_ldc (q := 113) dX4_copy_111 ko_X4_42 rfl ?_
                  refine go_ix1 (q := 116) dX4_copy_113 lk_X4_57 (by decide) (by decide) (Nat.le_of_ble_eq_true rfl) rfl (r_finds (p := 0) (by decide) (by decide) ?_)
                  exact go_iret dX4_copy_116 rfl (hL t u ht hu rfl rfl ⟨n1, n2⟩ h5 (fun w => absurd (lt0n h8) (by have := w.1.2.1; omega)) _ (Xf.rf 0))
                · skip
                  have p1 := ge0n h6
                  have p2 := ge0n h7
                  have p3 := ge0n h8
                  refine go_iload5 (q := 85) dX4_copy_83 rfl ?_
                  refine go_aloadn0 (q := 86) dX4_copy_85 rfl ?_
                  refine go_xg (q := 89) dX4_copy_86 fl_X4_28 rfl rfl ?_
                  refine go_iloadn1 (q := 90) dX4_copy_89 rfl ?_
                  refine go_xzld (q := 91) dX4_copy_90 ht rfl ?_
                  refine go_iloadn2 (q := 92) dX4_copy_91 rfl ?_
                  refine go_isub (q := 93) dX4_copy_92 rfl ?_
                  refine go_icmp_gt (tgt := 110) (q := 96) dX4_copy_93 (by decide) rfl (fun h9 => ?_) (fun h9 => ?_)
                  · skip
                    refine go_aloadn0 (q := 111) dX4_copy_110 rfl ?_
                    refine go_ldc (q := 113) dX4_copy_111 ko_X4_42 rfl ?_
                    refine go_ix1 (q := 116) dX4_copy_113 lk_X4_57 (by decide) (by decide) (Nat.le_of_ble_eq_true rfl) rfl (r_finds (p := 0) (by decide) (by decide) ?_)
                    exact go_iret dX4_copy_116 rfl (hL t u ht hu rfl rfl ⟨n1, n2⟩ h5 (fun w => absurd ((subL_le l1 p1).mpr (by have := w.1.2.2; omega)) (Int32.not_le.mpr h9)) _ (Xf.rf 0))
                  · skip
                    have p4 : z.toInt + f.toInt ≤ (X 3 5 t : Int) := (subL_le l1 p1).mp (Int32.not_lt.mp h9)
                    refine go_iload5 (q := 98) dX4_copy_96 rfl ?_
                    refine go_aloadn0 (q := 99) dX4_copy_98 rfl ?_
                    refine go_xg (q := 102) dX4_copy_99 fl_X4_28 rfl rfl ?_
                    refine go_iloadn3 (q := 103) dX4_copy_102 rfl ?_
                    refine go_xzld (q := 104) dX4_copy_103 hu rfl ?_
                    refine go_iload4 (q := 106) dX4_copy_104 rfl ?_
                    refine go_isub (q := 107) dX4_copy_106 rfl ?_
                    refine go_icmp_le (tgt := 117) (q := 110) dX4_copy_107 (by decide) rfl (fun h10 => ?_) (fun h10 => ?_)
                    · skip
                      have p5 : z.toInt + g.toInt ≤ (X 3 5 u : Int) := (subL_le l2 p2).mp h10
                      obtain ⟨a, ha31, rfl, -, -⟩ := rg_nat (n := 40) (x := f) (l := 0) (h := 40) ⟨p1, by omega⟩ (by omega) (by omega)
                      obtain ⟨b, hb31, rfl, -, -⟩ := rg_nat (n := 40) (x := g) (l := 0) (h := 40) ⟨p2, by omega⟩ (by omega) (by omega)
                      obtain ⟨n, hn31, rfl, -, -⟩ := rg_nat (n := 40) (x := z) (l := 0) (h := 40) ⟨p3, by omega⟩ (by omega) (by omega)
                      rw [nI_toInt (show a < 2 ^ 31 by omega), nI_toInt (show n < 2 ^ 31 by omega)] at p4
                      rw [nI_toInt (show b < 2 ^ 31 by omega), nI_toInt (show n < 2 ^ 31 by omega)] at p5
                      refine go_bipushN (v := 40) (q := 119) dX4_copy_117 (by decide) rfl ?_
                      refine go_iloadn1 (q := 120) dX4_copy_119 rfl ?_
                      refine go_imulN (q := 121) dX4_copy_120 rfl ?_
                      refine go_iloadn2 (q := 122) dX4_copy_121 rfl ?_
                      refine go_iaddN (q := 123) dX4_copy_122 rfl ?_
                      refine go_istore6 (q := 125) dX4_copy_123 rfl (by decide) rfl ?_
                      refine go_bipushN (v := 40) (q := 127) dX4_copy_125 (by decide) rfl ?_
                      refine go_iloadn3 (q := 128) dX4_copy_127 rfl ?_
                      refine go_imulN (q := 129) dX4_copy_128 rfl ?_
                      refine go_iload4 (q := 131) dX4_copy_129 rfl ?_
                      refine go_iaddN (q := 132) dX4_copy_131 rfl ?_
                      refine go_istore7 (q := 134) dX4_copy_132 rfl (by decide) rfl ?_
                      refine go_iconstN (n := 0) (q := 135) dX4_copy_134 rfl ?_
                      refine go_istore8 (q := 137) dX4_copy_135 rfl (by decide) rfl ?_
                      by_cases hc : 40 * t + a < 40 * u + b
                      · have hh := r_copy_137d (S := S) (N := N) (X := X) (Y := Y) (Q := Q) (t := t) (u := u) (f := a) (g := b) (n := n) (a := 40 * t + a) (b := 40 * u + b) hc (by omega) (by omega) (hO t u ht hu rfl rfl ⟨n1, n2⟩ h5 a b n rfl rfl rfl (by omega) (by omega)) (n + 1) 0 none (by omega) (by omega)
                        rw [cpY_n _ _ _ (Nat.le_of_eq (Nat.sub_zero n).symm)] at hh
                        exact hh
                      · have hh := r_copy_137u (S := S) (N := N) (X := X) (Y := Y) (Q := Q) (t := t) (u := u) (f := a) (g := b) (n := n) (a := 40 * t + a) (b := 40 * u + b) hc (by omega) (by omega) (hO t u ht hu rfl rfl ⟨n1, n2⟩ h5 a b n rfl rfl rfl (by omega) (by omega)) (n + 1) 0 none (by omega) (by omega)
                        rw [cpY_n _ _ _ (Nat.le_refl 0)] at hh
                        exact hh
                    · skip
                      refine go_aloadn0 (q := 111) dX4_copy_110 rfl ?_
                      refine go_ldc (q := 113) dX4_copy_111 ko_X4_42 rfl ?_
                      refine go_ix1 (q := 116) dX4_copy_113 lk_X4_57 (by decide) (by decide) (Nat.le_of_ble_eq_true rfl) rfl (r_finds (p := 0) (by decide) (by decide) ?_)
                      exact go_iret dX4_copy_116 rfl (hL t u ht hu rfl rfl ⟨n1, n2⟩ h5 (fun w => h10 ((subL_le l2 p2).mpr (by have := w.2.2.2; omega))) _ (Xf.rf 0))
          · skip
            refine go_aloadn0 (q := 63) dX4_copy_62 rfl ?_
            refine go_ldc (q := 65) dX4_copy_63 ko_X4_110 rfl ?_
            refine go_ix1 (q := 68) dX4_copy_65 lk_X4_57 (by decide) (by decide) (Nat.le_of_ble_eq_true rfl) rfl (r_finds (p := 2) (by decide) (by decide) ?_)
            exact go_iret dX4_copy_68 rfl (hK t u ht hu rfl rfl ⟨n1, n2⟩ (fun w => h5 (by rw [w])) _ (Xf.rf 2))
        · skip
          refine go_aloadn0 (q := 40) dX4_copy_39 rfl ?_
          refine go_ldcw (q := 43) dX4_copy_40 ko_X4_256 rfl ?_
          refine go_ix1 (q := 46) dX4_copy_43 lk_X4_57 (by decide) (by decide) (Nat.le_of_ble_eq_true rfl) rfl (r_finds (p := 5) (by decide) (by decide) ?_)
          exact go_iret dX4_copy_46 rfl (hM t u ht hu rfl rfl (fun w => h4 ((bitI_ge c2).mpr w.2)) _ (Xf.rf 5))
    · skip
      refine go_aloadn0 (q := 15) dX4_copy_14 rfl ?_
      refine go_ldc (q := 17) dX4_copy_15 ko_X4_42 rfl ?_
      refine go_ix1 (q := 20) dX4_copy_17 lk_X4_57 (by decide) (by decide) (Nat.le_of_ble_eq_true rfl) rfl (r_finds (p := 0) (by decide) (by decide) ?_)
      exact go_iret dX4_copy_20 rfl (hB (fun w => h2 w.2) _ (Xf.rf 0))
