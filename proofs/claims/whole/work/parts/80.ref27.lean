theorem pi_and {A B : Prop} [Decidable A] [Decidable B] {α : Type} {x y : α} (h : A) : (if A ∧ B then x else y) = if B then x else y := by
  by_cases hb : B
  · rw [if_pos hb, if_pos ⟨h, hb⟩]
  · rw [if_neg hb, if_neg (fun z => hb z.2)]

set_option maxHeartbeats 4000000 in
set_option maxRecDepth 100000 in
theorem r_goesTwo_soil {S : St} {N : Nat → Nat → Int64} {X : St} {Y : Nat → Int64} {Q : Option Value → AH → Prop} {T : Mk} (hR : TR X T) (hG : tpG T) (hQ : ∀ b T' M', ptwo T (X 0) 4 3 9 = (b, T', M') → ∀ X', Tx X X' T' M' → Q (some (.int (bI (b = true)))) (hp S N X' Y)) : Cn 4 yX4_goesTwo cX4_goesTwo 5 (some .boolean) [.ref 69, .int (nI 4), .int (nI 4), .int (nI 9)] (hp S N X Y) Q := by
  refine cn_of (own := RX4) (lo := [some (.ref 69), some (.int (nI 4)), some (.int (nI 4)), some (.int (nI 9)), none]) 1 rfl (by decide +kernel) rfl (Nat.le_of_ble_eq_true rfl) ?_
  have z0 := Tx.rf hR
  have hG0 := hG
  refine go_aloadn0 (q := 1) dX4_goesTwo_0 rfl ?_
  refine go_iconstN (n := 0) (q := 2) dX4_goesTwo_1 rfl ?_
  refine go_iloadn2 (q := 3) dX4_goesTwo_2 rfl ?_
  refine go_iconstN (n := 1) (q := 4) dX4_goesTwo_3 rfl ?_
  refine go_isubN (q := 5) dX4_goesTwo_4 (by decide) rfl ?_
  refine go_st (st' := [.int (nI 3), .int (nI 0), .ref 69]) rfl ?_
  refine go_ix2 (q := 8) dX4_goesTwo_5 lk_X4_234 (by decide) (by decide) (Nat.le_of_ble_eq_true rfl) rfl (r_goesNumber z0.1 hG0 (l := 0) (m := 3) (by decide) (by decide) (fun X1 y1 hG1 v1 => ?_))
  have z1 := z0.tm y1
  refine go_ifneB (tgt := 13) (q := 11) dX4_goesTwo_8 (by decide) rfl (fun h1 => ?_) (fun h1 => ?_)
  · skip
    refine go_aloadn0 (q := 14) dX4_goesTwo_13 rfl ?_
    refine go_xg (q := 17) dX4_goesTwo_14 fl_X4_212 rfl rfl ?_
    rw [v1 h1]
    refine go_istore4 (q := 19) dX4_goesTwo_17 rfl (by decide) rfl ?_
    refine go_aloadn0 (q := 20) dX4_goesTwo_19 rfl ?_
    refine go_iconstN (n := 0) (q := 21) dX4_goesTwo_20 rfl ?_
    refine go_iloadn3 (q := 22) dX4_goesTwo_21 rfl ?_
    refine go_ix2 (q := 25) dX4_goesTwo_22 lk_X4_234 (by decide) (by decide) (Nat.le_of_ble_eq_true rfl) rfl (r_goesNumber z1.1 hG1 (l := 0) (m := 9) (by decide) (by decide) (fun X2 y2 hG2 v2 => ?_))
    have z2 := z1.tm y2
    refine go_ifneB (tgt := 30) (q := 28) dX4_goesTwo_25 (by decide) rfl (fun h2 => ?_) (fun h2 => ?_)
    · skip
      refine go_aloadn0 (q := 31) dX4_goesTwo_30 rfl ?_
      refine go_xg (q := 34) dX4_goesTwo_31 fl_X4_7 rfl rfl ?_
      refine go_iloadn1 (q := 35) dX4_goesTwo_34 rfl ?_
      refine go_iload4 (q := 37) dX4_goesTwo_35 rfl ?_
      refine go_iaddN (q := 38) dX4_goesTwo_37 rfl ?_
      refine go_aloadn0 (q := 39) dX4_goesTwo_38 rfl ?_
      refine go_xg (q := 42) dX4_goesTwo_39 fl_X4_212 rfl rfl ?_
      rw [v2 h2]
      refine go_rst (q := 43) dX4_goesTwo_42 (rr_soil (o := tkn T 1 4) (by have := h1.2.2; omega)) rfl ?_
      have z3 := z2.xc (Xc.rf.u 4 (tkn T 1 4) ((tkn (tkn T)) 1 4))
      rw [z2.2.1] at z3
      refine go_aloadn0 (q := 44) dX4_goesTwo_43 rfl ?_
      refine go_ix0 (q := 47) dX4_goesTwo_44 lk_X4_225 (by decide) (by decide) (Nat.le_of_ble_eq_true rfl) rfl (r_nextToken hG2.1 z3.1.1 z3.1.2.1 z3.1.2.2.2.2.1 hG2.2.2.1 (fun X4 y4 => ?_))
      have z4 := z3.tm y4
      refine go_iconstN (n := 1) (q := 48) dX4_goesTwo_47 rfl ?_
      exact go_zretT dX4_goesTwo_48 rfl rfl (hQ true _ _ (by unfold ptwo; rw [if_neg (Decidable.not_not.mpr h1), if_neg (Decidable.not_not.mpr h2)]) _ z4)
    · skip
      refine go_iconstN (n := 0) (q := 29) dX4_goesTwo_28 rfl ?_
      exact go_zretF dX4_goesTwo_29 rfl Bool.false_ne_true (hQ false _ _ (by unfold ptwo; rw [if_neg (Decidable.not_not.mpr h1), if_pos h2]) _ z2)
  · skip
    refine go_iconstN (n := 0) (q := 12) dX4_goesTwo_11 rfl ?_
    exact go_zretF dX4_goesTwo_12 rfl Bool.false_ne_true (hQ false _ _ (by unfold ptwo; rw [if_pos h1]) _ z1)

set_option maxHeartbeats 4000000 in
set_option maxRecDepth 100000 in
theorem r_goesTwo_price {S : St} {N : Nat → Nat → Int64} {X : St} {Y : Nat → Int64} {Q : Option Value → AH → Prop} {T : Mk} (hR : TR X T) (hG : tpG T) (hQ : ∀ b T' M', ptwo T (X 0) 5 11 99 = (b, T', M') → ∀ X', Tx X X' T' M' → Q (some (.int (bI (b = true)))) (hp S N X' Y)) : Cn 4 yX4_goesTwo cX4_goesTwo 5 (some .boolean) [.ref 69, .int (nI 8), .int (nI 12), .int (nI 99)] (hp S N X Y) Q := by
  refine cn_of (own := RX4) (lo := [some (.ref 69), some (.int (nI 8)), some (.int (nI 12)), some (.int (nI 99)), none]) 1 rfl (by decide +kernel) rfl (Nat.le_of_ble_eq_true rfl) ?_
  have z0 := Tx.rf hR
  have hG0 := hG
  refine go_aloadn0 (q := 1) dX4_goesTwo_0 rfl ?_
  refine go_iconstN (n := 0) (q := 2) dX4_goesTwo_1 rfl ?_
  refine go_iloadn2 (q := 3) dX4_goesTwo_2 rfl ?_
  refine go_iconstN (n := 1) (q := 4) dX4_goesTwo_3 rfl ?_
  refine go_isubN (q := 5) dX4_goesTwo_4 (by decide) rfl ?_
  refine go_st (st' := [.int (nI 11), .int (nI 0), .ref 69]) rfl ?_
  refine go_ix2 (q := 8) dX4_goesTwo_5 lk_X4_234 (by decide) (by decide) (Nat.le_of_ble_eq_true rfl) rfl (r_goesNumber z0.1 hG0 (l := 0) (m := 11) (by decide) (by decide) (fun X1 y1 hG1 v1 => ?_))
  have z1 := z0.tm y1
  refine go_ifneB (tgt := 13) (q := 11) dX4_goesTwo_8 (by decide) rfl (fun h1 => ?_) (fun h1 => ?_)
  · skip
    refine go_aloadn0 (q := 14) dX4_goesTwo_13 rfl ?_
    refine go_xg (q := 17) dX4_goesTwo_14 fl_X4_212 rfl rfl ?_
    rw [v1 h1]
    refine go_istore4 (q := 19) dX4_goesTwo_17 rfl (by decide) rfl ?_
    refine go_aloadn0 (q := 20) dX4_goesTwo_19 rfl ?_
    refine go_iconstN (n := 0) (q := 21) dX4_goesTwo_20 rfl ?_
    refine go_iloadn3 (q := 22) dX4_goesTwo_21 rfl ?_
    refine go_ix2 (q := 25) dX4_goesTwo_22 lk_X4_234 (by decide) (by decide) (Nat.le_of_ble_eq_true rfl) rfl (r_goesNumber z1.1 hG1 (l := 0) (m := 99) (by decide) (by decide) (fun X2 y2 hG2 v2 => ?_))
    have z2 := z1.tm y2
    refine go_ifneB (tgt := 30) (q := 28) dX4_goesTwo_25 (by decide) rfl (fun h2 => ?_) (fun h2 => ?_)
    · skip
      refine go_aloadn0 (q := 31) dX4_goesTwo_30 rfl ?_
      refine go_xg (q := 34) dX4_goesTwo_31 fl_X4_7 rfl rfl ?_
      refine go_iloadn1 (q := 35) dX4_goesTwo_34 rfl ?_
      refine go_iload4 (q := 37) dX4_goesTwo_35 rfl ?_
      refine go_iaddN (q := 38) dX4_goesTwo_37 rfl ?_
      refine go_aloadn0 (q := 39) dX4_goesTwo_38 rfl ?_
      refine go_xg (q := 42) dX4_goesTwo_39 fl_X4_212 rfl rfl ?_
      rw [v2 h2]
      refine go_rst (q := 43) dX4_goesTwo_42 (rr_price (o := tkn T 1 4) (by have := h1.2.2; omega)) rfl ?_
      have z3 := z2.xc (Xc.rf.u 5 (tkn T 1 4) ((tkn (tkn T)) 1 4))
      rw [z2.2.1] at z3
      refine go_aloadn0 (q := 44) dX4_goesTwo_43 rfl ?_
      refine go_ix0 (q := 47) dX4_goesTwo_44 lk_X4_225 (by decide) (by decide) (Nat.le_of_ble_eq_true rfl) rfl (r_nextToken hG2.1 z3.1.1 z3.1.2.1 z3.1.2.2.2.2.1 hG2.2.2.1 (fun X4 y4 => ?_))
      have z4 := z3.tm y4
      refine go_iconstN (n := 1) (q := 48) dX4_goesTwo_47 rfl ?_
      exact go_zretT dX4_goesTwo_48 rfl rfl (hQ true _ _ (by unfold ptwo; rw [if_neg (Decidable.not_not.mpr h1), if_neg (Decidable.not_not.mpr h2)]) _ z4)
    · skip
      refine go_iconstN (n := 0) (q := 29) dX4_goesTwo_28 rfl ?_
      exact go_zretF dX4_goesTwo_29 rfl Bool.false_ne_true (hQ false _ _ (by unfold ptwo; rw [if_neg (Decidable.not_not.mpr h1), if_pos h2]) _ z2)
  · skip
    refine go_iconstN (n := 0) (q := 12) dX4_goesTwo_11 rfl ?_
    exact go_zretF dX4_goesTwo_12 rfl Bool.false_ne_true (hQ false _ _ (by unfold ptwo; rw [if_pos h1]) _ z1)

set_option maxHeartbeats 4000000 in
set_option maxRecDepth 100000 in
theorem r_goesCoin_192a {S : St} {N : Nat → Nat → Int64} {X : St} {Y : Nat → Int64} {Q : Option Value → AH → Prop} {T : Mk} {k gg : Nat} (hn : X 0 13 0 < 12) (h1 : wd (tkn T) 6) (h2 : nb (tkn (tkn T)) 0 3) (h3 : wd (tkn (tkn (tkn T))) 7) (h4 : nb (tkn (tkn (tkn (tkn T)))) 0 99) (hG5 : tpG (tkn (tkn (tkn (tkn (tkn T)))))) {X6 : St} (z5 : Tx X X6 (tkn (tkn (tkn (tkn (tkn T))))) (addC (X 0) k ((tkn (tkn T)) 1 4) ((tkn (tkn (tkn (tkn T)))) 1 4) 0)) (hQ : ∀ b T' M', (if X 0 13 0 < 12 then pcoin T (X 0) k else (false, T, X 0)) = (b, T', M') → ∀ X', Tx X X' T' M' → Q (some (.int (bI (b = true)))) (hp S N X' Y)) (hr : wd (tkn (tkn (tkn (tkn (tkn T))))) 8) : Go 4 RX4 cX4_goesCoin 6 (some .boolean) 192 [some (.ref 69), some (.int (nI k)), some (.int (nI ((tkn (tkn T)) 1 4))), some (.int (nI (X 0 13 0))), some (.int (nI 1)), none] [.int (nI gg)] (hp S N X6 Y) Q := by
  refine go_istore5 (q := 194) dX4_goesCoin_192 rfl (by decide) rfl ?_
  refine go_aloadn0 (q := 195) dX4_goesCoin_194 rfl ?_
  refine go_iloadn3 (q := 196) dX4_goesCoin_195 rfl ?_
  refine go_iconstN (n := 3) (q := 197) dX4_goesCoin_196 rfl ?_
  refine go_iload4 (q := 199) dX4_goesCoin_197 rfl ?_
  refine go_if_eqN (tgt := 206) (q := 202) dX4_goesCoin_199 (by decide) rfl (by omega) (fun q1 => ?_) (fun q1 => ?_)
  · skip
    exact absurd q1 (by decide)
  · skip
    refine go_iconstN (n := 1) (q := 203) dX4_goesCoin_202 rfl ?_
    refine go_goto (tgt := 216) dX4_goesCoin_203 (by decide) ?_
    refine go_ix3 (q := 219) dX4_goesCoin_216 lk_X4_65 (by decide) (by decide) (Nat.le_of_ble_eq_true rfl) rfl (r_puts (by omega) (by decide) ?_)
    have z7 := z5.xc (Xc.rf.u 3 (X 0 13 0) 1)
    rw [z5.2.1, addC_s] at z7
    refine go_iload4 (q := 221) dX4_goesCoin_219 rfl ?_
    refine go_if_neN (tgt := 229) (q := 224) dX4_goesCoin_221 (by decide) rfl (by omega) (fun q2 => ?_) (fun q2 => ?_)
    · skip
      refine go_aloadn0 (q := 230) dX4_goesCoin_229 rfl ?_
      refine go_ix0 (q := 233) dX4_goesCoin_230 lk_X4_225 (by decide) (by decide) (Nat.le_of_ble_eq_true rfl) rfl (r_nextToken hG5.1 z7.1.1 z7.1.2.1 z7.1.2.2.2.2.1 hG5.2.2.1 (fun X8 y8 => ?_))
      have z8 := z7.tm y8
      refine go_iconstN (n := 1) (q := 234) dX4_goesCoin_233 rfl ?_
      exact go_zretT dX4_goesCoin_234 rfl rfl (hQ true _ _ (by rw [if_pos hn]; unfold pcoin; rw [if_neg (Decidable.not_not.mpr h1), if_neg (Decidable.not_not.mpr h2), if_neg (Decidable.not_not.mpr h3), if_neg (Decidable.not_not.mpr h4), if_pos hr]) _ z8)
    · skip
      omega

set_option maxHeartbeats 4000000 in
set_option maxRecDepth 100000 in
theorem r_goesCoin_192b {S : St} {N : Nat → Nat → Int64} {X : St} {Y : Nat → Int64} {Q : Option Value → AH → Prop} {T : Mk} {k : Nat} (hn : X 0 13 0 < 12) (h1 : wd (tkn T) 6) (h2 : nb (tkn (tkn T)) 0 3) (h3 : wd (tkn (tkn (tkn T))) 7) (h4 : nb (tkn (tkn (tkn (tkn T)))) 0 99) (hG5 : tpG (tkn (tkn (tkn (tkn (tkn T)))))) {X6 : St} (z5 : Tx X X6 (tkn (tkn (tkn (tkn (tkn T))))) (addC (X 0) k ((tkn (tkn T)) 1 4) ((tkn (tkn (tkn (tkn T)))) 1 4) 0)) (hQ : ∀ b T' M', (if X 0 13 0 < 12 then pcoin T (X 0) k else (false, T, X 0)) = (b, T', M') → ∀ X', Tx X X' T' M' → Q (some (.int (bI (b = true)))) (hp S N X' Y)) (hr : ¬ wd (tkn (tkn (tkn (tkn (tkn T))))) 8) (hg : wd (tkn (tkn (tkn (tkn (tkn T))))) 9) : Go 4 RX4 cX4_goesCoin 6 (some .boolean) 192 [some (.ref 69), some (.int (nI k)), some (.int (nI ((tkn (tkn T)) 1 4))), some (.int (nI (X 0 13 0))), some (.int (nI 0)), none] [.int (nI 1)] (hp S N X6 Y) Q := by
  refine go_istore5 (q := 194) dX4_goesCoin_192 rfl (by decide) rfl ?_
  refine go_aloadn0 (q := 195) dX4_goesCoin_194 rfl ?_
  refine go_iloadn3 (q := 196) dX4_goesCoin_195 rfl ?_
  refine go_iconstN (n := 3) (q := 197) dX4_goesCoin_196 rfl ?_
  refine go_iload4 (q := 199) dX4_goesCoin_197 rfl ?_
  refine go_if_eqN (tgt := 206) (q := 202) dX4_goesCoin_199 (by decide) rfl (by omega) (fun q1 => ?_) (fun q1 => ?_)
  · skip
    refine go_iload5 (q := 208) dX4_goesCoin_206 rfl ?_
    refine go_if_eqN (tgt := 215) (q := 211) dX4_goesCoin_208 (by decide) rfl (by omega) (fun q2 => ?_) (fun q2 => ?_)
    · skip
      omega
    · skip
      refine go_iconstN (n := 2) (q := 212) dX4_goesCoin_211 rfl ?_
      refine go_goto (tgt := 216) dX4_goesCoin_212 (by decide) ?_
      refine go_ix3 (q := 219) dX4_goesCoin_216 lk_X4_65 (by decide) (by decide) (Nat.le_of_ble_eq_true rfl) rfl (r_puts (by omega) (by decide) ?_)
      have z7 := z5.xc (Xc.rf.u 3 (X 0 13 0) 2)
      rw [z5.2.1, addC_s] at z7
      refine go_iload4 (q := 221) dX4_goesCoin_219 rfl ?_
      refine go_if_neN (tgt := 229) (q := 224) dX4_goesCoin_221 (by decide) rfl (by omega) (fun q3 => ?_) (fun q3 => ?_)
      · skip
        omega
      · skip
        refine go_iload5 (q := 226) dX4_goesCoin_224 rfl ?_
        refine go_if_eqN (tgt := 233) (q := 229) dX4_goesCoin_226 (by decide) rfl (by omega) (fun q4 => ?_) (fun q4 => ?_)
        · skip
          omega
        · skip
          refine go_aloadn0 (q := 230) dX4_goesCoin_229 rfl ?_
          refine go_ix0 (q := 233) dX4_goesCoin_230 lk_X4_225 (by decide) (by decide) (Nat.le_of_ble_eq_true rfl) rfl (r_nextToken hG5.1 z7.1.1 z7.1.2.1 z7.1.2.2.2.2.1 hG5.2.2.1 (fun X8 y8 => ?_))
          have z8 := z7.tm y8
          refine go_iconstN (n := 1) (q := 234) dX4_goesCoin_233 rfl ?_
          exact go_zretT dX4_goesCoin_234 rfl rfl (hQ true _ _ (by rw [if_pos hn]; unfold pcoin; rw [if_neg (Decidable.not_not.mpr h1), if_neg (Decidable.not_not.mpr h2), if_neg (Decidable.not_not.mpr h3), if_neg (Decidable.not_not.mpr h4), if_neg hr, if_pos hg]) _ z8)
  · skip
    omega

set_option maxHeartbeats 4000000 in
set_option maxRecDepth 100000 in
theorem r_goesCoin_192c {S : St} {N : Nat → Nat → Int64} {X : St} {Y : Nat → Int64} {Q : Option Value → AH → Prop} {T : Mk} {k : Nat} (hn : X 0 13 0 < 12) (h1 : wd (tkn T) 6) (h2 : nb (tkn (tkn T)) 0 3) (h3 : wd (tkn (tkn (tkn T))) 7) (h4 : nb (tkn (tkn (tkn (tkn T)))) 0 99) (hG5 : tpG (tkn (tkn (tkn (tkn (tkn T)))))) {X6 : St} (z5 : Tx X X6 (tkn (tkn (tkn (tkn (tkn T))))) (addC (X 0) k ((tkn (tkn T)) 1 4) ((tkn (tkn (tkn (tkn T)))) 1 4) 0)) (hQ : ∀ b T' M', (if X 0 13 0 < 12 then pcoin T (X 0) k else (false, T, X 0)) = (b, T', M') → ∀ X', Tx X X' T' M' → Q (some (.int (bI (b = true)))) (hp S N X' Y)) (hr : ¬ wd (tkn (tkn (tkn (tkn (tkn T))))) 8) (hg : ¬ wd (tkn (tkn (tkn (tkn (tkn T))))) 9) : Go 4 RX4 cX4_goesCoin 6 (some .boolean) 192 [some (.ref 69), some (.int (nI k)), some (.int (nI ((tkn (tkn T)) 1 4))), some (.int (nI (X 0 13 0))), some (.int (nI 0)), none] [.int (nI 0)] (hp S N X6 Y) Q := by
  refine go_istore5 (q := 194) dX4_goesCoin_192 rfl (by decide) rfl ?_
  refine go_aloadn0 (q := 195) dX4_goesCoin_194 rfl ?_
  refine go_iloadn3 (q := 196) dX4_goesCoin_195 rfl ?_
  refine go_iconstN (n := 3) (q := 197) dX4_goesCoin_196 rfl ?_
  refine go_iload4 (q := 199) dX4_goesCoin_197 rfl ?_
  refine go_if_eqN (tgt := 206) (q := 202) dX4_goesCoin_199 (by decide) rfl (by omega) (fun q1 => ?_) (fun q1 => ?_)
  · skip
    refine go_iload5 (q := 208) dX4_goesCoin_206 rfl ?_
    refine go_if_eqN (tgt := 215) (q := 211) dX4_goesCoin_208 (by decide) rfl (by omega) (fun q2 => ?_) (fun q2 => ?_)
    · skip
      refine go_iconstN (n := 0) (q := 216) dX4_goesCoin_215 rfl ?_
      refine go_ix3 (q := 219) dX4_goesCoin_216 lk_X4_65 (by decide) (by decide) (Nat.le_of_ble_eq_true rfl) rfl (r_puts (by omega) (by decide) ?_)
      have z7 := z5.xc (Xc.rf.u 3 (X 0 13 0) 0)
      rw [z5.2.1, addC_s] at z7
      refine go_iload4 (q := 221) dX4_goesCoin_219 rfl ?_
      refine go_if_neN (tgt := 229) (q := 224) dX4_goesCoin_221 (by decide) rfl (by omega) (fun q3 => ?_) (fun q3 => ?_)
      · skip
        omega
      · skip
        refine go_iload5 (q := 226) dX4_goesCoin_224 rfl ?_
        refine go_if_eqN (tgt := 233) (q := 229) dX4_goesCoin_226 (by decide) rfl (by omega) (fun q4 => ?_) (fun q4 => ?_)
        · skip
          refine go_iconstN (n := 1) (q := 234) dX4_goesCoin_233 rfl ?_
          exact go_zretT dX4_goesCoin_234 rfl rfl (hQ true _ _ (by rw [if_pos hn]; unfold pcoin; rw [if_neg (Decidable.not_not.mpr h1), if_neg (Decidable.not_not.mpr h2), if_neg (Decidable.not_not.mpr h3), if_neg (Decidable.not_not.mpr h4), if_neg hr, if_neg hg]) _ z7)
        · skip
          omega
    · skip
      omega
  · skip
    omega

set_option maxHeartbeats 4000000 in
set_option maxRecDepth 100000 in
theorem r_goesCoin_192 {S : St} {N : Nat → Nat → Int64} {X : St} {Y : Nat → Int64} {Q : Option Value → AH → Prop} {T : Mk} {k rr gg : Nat} (hn : X 0 13 0 < 12) (h1 : wd (tkn T) 6) (h2 : nb (tkn (tkn T)) 0 3) (h3 : wd (tkn (tkn (tkn T))) 7) (h4 : nb (tkn (tkn (tkn (tkn T)))) 0 99) (hG5 : tpG (tkn (tkn (tkn (tkn (tkn T)))))) {X6 : St} (z5 : Tx X X6 (tkn (tkn (tkn (tkn (tkn T))))) (addC (X 0) k ((tkn (tkn T)) 1 4) ((tkn (tkn (tkn (tkn T)))) 1 4) 0)) (hQ : ∀ b T' M', (if X 0 13 0 < 12 then pcoin T (X 0) k else (false, T, X 0)) = (b, T', M') → ∀ X', Tx X X' T' M' → Q (some (.int (bI (b = true)))) (hp S N X' Y)) (hr : (rr = 1 ∧ wd (tkn (tkn (tkn (tkn (tkn T))))) 8) ∨ (rr = 0 ∧ ¬ wd (tkn (tkn (tkn (tkn (tkn T))))) 8)) (hg : (gg = 1 ∧ wd (tkn (tkn (tkn (tkn (tkn T))))) 9) ∨ (gg = 0 ∧ ¬ wd (tkn (tkn (tkn (tkn (tkn T))))) 9)) : Go 4 RX4 cX4_goesCoin 6 (some .boolean) 192 [some (.ref 69), some (.int (nI k)), some (.int (nI ((tkn (tkn T)) 1 4))), some (.int (nI (X 0 13 0))), some (.int (nI rr)), none] [ .int (nI gg)] (hp S N X6 Y) Q := by
  rcases hr with ⟨rfl, hr⟩ | ⟨rfl, hr⟩
  · exact r_goesCoin_192a hn h1 h2 h3 h4 hG5 z5 hQ hr
  rcases hg with ⟨rfl, hg⟩ | ⟨rfl, hg⟩
  · exact r_goesCoin_192b hn h1 h2 h3 h4 hG5 z5 hQ hr hg
  exact r_goesCoin_192c hn h1 h2 h3 h4 hG5 z5 hQ hr hg

set_option maxHeartbeats 4000000 in
set_option maxRecDepth 100000 in
theorem r_goesCoin_132 {S : St} {N : Nat → Nat → Int64} {X : St} {Y : Nat → Int64} {Q : Option Value → AH → Prop} {T : Mk} {k rr : Nat} (hn : X 0 13 0 < 12) (h1 : wd (tkn T) 6) (h2 : nb (tkn (tkn T)) 0 3) (h3 : wd (tkn (tkn (tkn T))) 7) (h4 : nb (tkn (tkn (tkn (tkn T)))) 0 99) (hG5 : tpG (tkn (tkn (tkn (tkn (tkn T)))))) {X6 : St} (z5 : Tx X X6 (tkn (tkn (tkn (tkn (tkn T))))) (addC (X 0) k ((tkn (tkn T)) 1 4) ((tkn (tkn (tkn (tkn T)))) 1 4) 0)) (hQ : ∀ b T' M', (if X 0 13 0 < 12 then pcoin T (X 0) k else (false, T, X 0)) = (b, T', M') → ∀ X', Tx X X' T' M' → Q (some (.int (bI (b = true)))) (hp S N X' Y)) (hr : (rr = 1 ∧ wd (tkn (tkn (tkn (tkn (tkn T))))) 8) ∨ (rr = 0 ∧ ¬ wd (tkn (tkn (tkn (tkn (tkn T))))) 8)) : Go 4 RX4 cX4_goesCoin 6 (some .boolean) 132 [some (.ref 69), some (.int (nI k)), some (.int (nI ((tkn (tkn T)) 1 4))), some (.int (nI (X 0 13 0))), none, none] [.int (nI rr)] (hp S N X6 Y) Q := by
  have rs := z5.1.2.2.2.1
  have hL := hG5.1.1
  have hs1 := hG5.2.1
  have hs2 := hG5.2.2.1
  have r0 := z5.1.1
  have rL := z5.1.2.1
  refine go_istore4 (q := 134) dX4_goesCoin_132 rfl (by decide) rfl ?_
  refine go_aloadn0 (q := 135) dX4_goesCoin_134 rfl ?_
  refine go_bipushN (v := 7) (q := 137) dX4_goesCoin_135 (by decide) rfl ?_
  refine go_ix1 (q := 140) dX4_goesCoin_137 lk_X4_215 (by decide) (by decide) (Nat.le_of_ble_eq_true rfl) rfl (r_isWord z5.1 hG5 (by decide) ?_)
  refine go_ifeqB (tgt := 191) (q := 143) dX4_goesCoin_140 (by decide) rfl (fun q1 => ?_) (fun q1 => ?_)
  · skip
    refine go_iconstN (n := 0) (q := 192) dX4_goesCoin_191 rfl ?_
    exact r_goesCoin_192 hn h1 h2 h3 h4 hG5 z5 hQ hr (Or.inr ⟨rfl, fun w => q1 ((wd_7 hG5 (by decide) (j := 9) rfl rfl rfl rfl rfl rfl rfl rfl).mpr w).1⟩)
  · skip
    refine go_aloadn0 (q := 144) dX4_goesCoin_143 rfl ?_
    refine go_iconstN (n := 0) (q := 145) dX4_goesCoin_144 rfl ?_
    refine go_bipushN (v := 112) (q := 147) dX4_goesCoin_145 (by decide) rfl ?_
    refine go_bipushN (v := 108) (q := 149) dX4_goesCoin_147 (by decide) rfl ?_
    refine go_bipushN (v := 97) (q := 151) dX4_goesCoin_149 (by decide) rfl ?_
    refine go_ix4 (q := 154) dX4_goesCoin_151 lk_X4_218 (by decide) (by decide) (Nat.le_of_ble_eq_true rfl) rfl (r_has3 z5.1 hG5 (by decide) ?_)
    refine go_ifeqB (tgt := 191) (q := 157) dX4_goesCoin_154 (by decide) rfl (fun q2 => ?_) (fun q2 => ?_)
    · skip
      refine go_iconstN (n := 0) (q := 192) dX4_goesCoin_191 rfl ?_
      exact r_goesCoin_192 hn h1 h2 h3 h4 hG5 z5 hQ hr (Or.inr ⟨rfl, fun w => q2 ((wd_7 hG5 (by decide) (j := 9) rfl rfl rfl rfl rfl rfl rfl rfl).mpr w).2.1⟩)
    · skip
      refine go_aloadn0 (q := 158) dX4_goesCoin_157 rfl ?_
      refine go_iconstN (n := 3) (q := 159) dX4_goesCoin_158 rfl ?_
      refine go_bipushN (v := 110) (q := 161) dX4_goesCoin_159 (by decide) rfl ?_
      refine go_bipushN (v := 116) (q := 163) dX4_goesCoin_161 (by decide) rfl ?_
      refine go_bipushN (v := 101) (q := 165) dX4_goesCoin_163 (by decide) rfl ?_
      refine go_ix4 (q := 168) dX4_goesCoin_165 lk_X4_218 (by decide) (by decide) (Nat.le_of_ble_eq_true rfl) rfl (r_has3 z5.1 hG5 (by decide) ?_)
      refine go_ifeqB (tgt := 191) (q := 171) dX4_goesCoin_168 (by decide) rfl (fun q3 => ?_) (fun q3 => ?_)
      · skip
        refine go_iconstN (n := 0) (q := 192) dX4_goesCoin_191 rfl ?_
        exact r_goesCoin_192 hn h1 h2 h3 h4 hG5 z5 hQ hr (Or.inr ⟨rfl, fun w => q3 ((wd_7 hG5 (by decide) (j := 9) rfl rfl rfl rfl rfl rfl rfl rfl).mpr w).2.2.1⟩)
      · skip
        refine go_aloadn0 (q := 172) dX4_goesCoin_171 rfl ?_
        refine go_aloadn0 (q := 173) dX4_goesCoin_172 rfl ?_
        refine go_xg (q := 176) dX4_goesCoin_173 fl_X4_197 rfl rfl ?_
        rw [rs]
        refine go_bipushN (v := 6) (q := 178) dX4_goesCoin_176 (by decide) rfl ?_
        refine go_iaddN (q := 179) dX4_goesCoin_178 rfl ?_
        refine go_ix1 (q := 182) dX4_goesCoin_179 lk_X4_200 (by decide) (by decide) (Nat.le_of_ble_eq_true rfl) rfl (r_byteAt (by omega) (by omega) ?_)
        rw [r0, rL]
        refine go_bipushN (v := 100) (q := 184) dX4_goesCoin_182 (by decide) rfl ?_
        refine go_icmp_ne (tgt := 191) (q := 187) dX4_goesCoin_184 (by decide) rfl (fun q4 => ?_) (fun q4 => ?_)
        · skip
          refine go_iconstN (n := 0) (q := 192) dX4_goesCoin_191 rfl ?_
          exact r_goesCoin_192 hn h1 h2 h3 h4 hG5 z5 hQ hr (Or.inr ⟨rfl, fun w => q4 ((wd_7 hG5 (by decide) (j := 9) rfl rfl rfl rfl rfl rfl rfl rfl).mpr w).2.2.2⟩)
        · skip
          refine go_iconstN (n := 1) (q := 188) dX4_goesCoin_187 rfl ?_
          refine go_goto (tgt := 192) dX4_goesCoin_188 (by decide) ?_
          exact r_goesCoin_192 hn h1 h2 h3 h4 hG5 z5 hQ hr (Or.inl ⟨rfl, (wd_7 hG5 (by decide) (j := 9) rfl rfl rfl rfl rfl rfl rfl rfl).mp ⟨q1, q2, q3, q4⟩⟩)

set_option maxHeartbeats 4000000 in
set_option maxRecDepth 100000 in
theorem r_goesCoin_90 {S : St} {N : Nat → Nat → Int64} {X : St} {Y : Nat → Int64} {Q : Option Value → AH → Prop} {T : Mk} {k : Nat} (hn : X 0 13 0 < 12) (h1 : wd (tkn T) 6) (h2 : nb (tkn (tkn T)) 0 3) (h3 : wd (tkn (tkn (tkn T))) 7) (h4 : nb (tkn (tkn (tkn (tkn T)))) 0 99) (hG5 : tpG (tkn (tkn (tkn (tkn (tkn T)))))) {X6 : St} (z5 : Tx X X6 (tkn (tkn (tkn (tkn (tkn T))))) (addC (X 0) k ((tkn (tkn T)) 1 4) ((tkn (tkn (tkn (tkn T)))) 1 4) 0)) (hQ : ∀ b T' M', (if X 0 13 0 < 12 then pcoin T (X 0) k else (false, T, X 0)) = (b, T', M') → ∀ X', Tx X X' T' M' → Q (some (.int (bI (b = true)))) (hp S N X' Y)) : Go 4 RX4 cX4_goesCoin 6 (some .boolean) 90 [some (.ref 69), some (.int (nI k)), some (.int (nI ((tkn (tkn T)) 1 4))), some (.int (nI (X 0 13 0))), none, none] [] (hp S N X6 Y) Q := by
  refine go_aloadn0 (q := 91) dX4_goesCoin_90 rfl ?_
  refine go_bipushN (v := 6) (q := 93) dX4_goesCoin_91 (by decide) rfl ?_
  refine go_ix1 (q := 96) dX4_goesCoin_93 lk_X4_215 (by decide) (by decide) (Nat.le_of_ble_eq_true rfl) rfl (r_isWord z5.1 hG5 (by decide) ?_)
  refine go_ifeqB (tgt := 131) (q := 99) dX4_goesCoin_96 (by decide) rfl (fun q1 => ?_) (fun q1 => ?_)
  · skip
    refine go_iconstN (n := 0) (q := 132) dX4_goesCoin_131 rfl ?_
    exact r_goesCoin_132 hn h1 h2 h3 h4 hG5 z5 hQ (Or.inr ⟨rfl, fun w => q1 ((wd_6 hG5 (by decide) (j := 8) rfl rfl rfl rfl rfl rfl rfl).mpr w).1⟩)
  · skip
    refine go_aloadn0 (q := 100) dX4_goesCoin_99 rfl ?_
    refine go_iconstN (n := 0) (q := 101) dX4_goesCoin_100 rfl ?_
    refine go_bipushN (v := 114) (q := 103) dX4_goesCoin_101 (by decide) rfl ?_
    refine go_bipushN (v := 111) (q := 105) dX4_goesCoin_103 (by decide) rfl ?_
    refine go_bipushN (v := 116) (q := 107) dX4_goesCoin_105 (by decide) rfl ?_
    refine go_ix4 (q := 110) dX4_goesCoin_107 lk_X4_218 (by decide) (by decide) (Nat.le_of_ble_eq_true rfl) rfl (r_has3 z5.1 hG5 (by decide) ?_)
    refine go_ifeqB (tgt := 131) (q := 113) dX4_goesCoin_110 (by decide) rfl (fun q2 => ?_) (fun q2 => ?_)
    · skip
      refine go_iconstN (n := 0) (q := 132) dX4_goesCoin_131 rfl ?_
      exact r_goesCoin_132 hn h1 h2 h3 h4 hG5 z5 hQ (Or.inr ⟨rfl, fun w => q2 ((wd_6 hG5 (by decide) (j := 8) rfl rfl rfl rfl rfl rfl rfl).mpr w).2.1⟩)
    · skip
      refine go_aloadn0 (q := 114) dX4_goesCoin_113 rfl ?_
      refine go_iconstN (n := 3) (q := 115) dX4_goesCoin_114 rfl ?_
      refine go_bipushN (v := 116) (q := 117) dX4_goesCoin_115 (by decide) rfl ?_
      refine go_bipushN (v := 101) (q := 119) dX4_goesCoin_117 (by decide) rfl ?_
      refine go_bipushN (v := 110) (q := 121) dX4_goesCoin_119 (by decide) rfl ?_
      refine go_ix4 (q := 124) dX4_goesCoin_121 lk_X4_218 (by decide) (by decide) (Nat.le_of_ble_eq_true rfl) rfl (r_has3 z5.1 hG5 (by decide) ?_)
      refine go_ifeqB (tgt := 131) (q := 127) dX4_goesCoin_124 (by decide) rfl (fun q3 => ?_) (fun q3 => ?_)
      · skip
        refine go_iconstN (n := 0) (q := 132) dX4_goesCoin_131 rfl ?_
        exact r_goesCoin_132 hn h1 h2 h3 h4 hG5 z5 hQ (Or.inr ⟨rfl, fun w => q3 ((wd_6 hG5 (by decide) (j := 8) rfl rfl rfl rfl rfl rfl rfl).mpr w).2.2⟩)
      · skip
        refine go_iconstN (n := 1) (q := 128) dX4_goesCoin_127 rfl ?_
        refine go_goto (tgt := 132) dX4_goesCoin_128 (by decide) ?_
        exact r_goesCoin_132 hn h1 h2 h3 h4 hG5 z5 hQ (Or.inl ⟨rfl, (wd_6 hG5 (by decide) (j := 8) rfl rfl rfl rfl rfl rfl rfl).mp ⟨q1, q2, q3⟩⟩)

set_option maxHeartbeats 4000000 in
set_option maxRecDepth 100000 in
theorem r_goesCoin {S : St} {N : Nat → Nat → Int64} {X : St} {Y : Nat → Int64} {Q : Option Value → AH → Prop} {T : Mk} (hR : TR X T) (hG : tpG T) {k : Nat} (hn12 : X 0 13 0 ≤ 12) (hQ : ∀ b T' M', (if X 0 13 0 < 12 then pcoin T (X 0) k else (false, T, X 0)) = (b, T', M') → ∀ X', Tx X X' T' M' → Q (some (.int (bI (b = true)))) (hp S N X' Y)) : Cn 4 yX4_goesCoin cX4_goesCoin 6 (some .boolean) [.ref 69, .int (nI k)] (hp S N X Y) Q := by
  refine cn_of (own := RX4) (lo := [some (.ref 69), some (.int (nI k)), none, none, none, none]) 4 rfl (by decide +kernel) rfl (Nat.le_of_ble_eq_true rfl) ?_
  have z0 := Tx.rf hR
  have hG0 := hG
  refine go_aloadn0 (q := 1) dX4_goesCoin_0 rfl ?_
  refine go_xg (q := 4) dX4_goesCoin_1 fl_X4_7 rfl rfl ?_
  refine go_iconstN (n := 0) (q := 5) dX4_goesCoin_4 rfl ?_
  refine go_rld (q := 6) dX4_goesCoin_5 (rr_13 (f := 0) (by decide)) rfl ?_
  refine go_bipushN (v := 12) (q := 8) dX4_goesCoin_6 (by decide) rfl ?_
  refine go_icmp_neN (tgt := 13) (q := 11) dX4_goesCoin_8 (by decide) rfl (by omega) (by omega) (fun h0 => ?_) (fun h0 => ?_)
  · skip
    have hn : X 0 13 0 < 12 := by omega
    refine go_aloadn0 (q := 14) dX4_goesCoin_13 rfl ?_
    refine go_ix0 (q := 17) dX4_goesCoin_14 lk_X4_225 (by decide) (by decide) (Nat.le_of_ble_eq_true rfl) rfl (r_nextToken hG0.1 z0.1.1 z0.1.2.1 z0.1.2.2.2.2.1 hG0.2.2.1 (fun X1 y1 => ?_))
    have z1 := z0.tm y1
    have hG1 := tkn_G hG0.1 hG0.2.2.1
    refine go_aloadn0 (q := 18) dX4_goesCoin_17 rfl ?_
    refine go_bipushN (v := 111) (q := 20) dX4_goesCoin_18 (by decide) rfl ?_
    refine go_bipushN (v := 102) (q := 22) dX4_goesCoin_20 (by decide) rfl ?_
    refine go_ix2 (q := 25) dX4_goesCoin_22 lk_X4_231 (by decide) (by decide) (Nat.le_of_ble_eq_true rfl) rfl (r_isWord2 z1.1 hG1 ?_)
    refine go_ifeqB (tgt := 37) (q := 28) dX4_goesCoin_25 (by decide) rfl (fun h1 => ?_) (fun h1 => ?_)
    · skip
      refine go_iconstN (n := 0) (q := 38) dX4_goesCoin_37 rfl ?_
      exact go_zretF dX4_goesCoin_38 rfl Bool.false_ne_true (hQ false _ _ (by rw [if_pos hn]; unfold pcoin; rw [if_pos (fun w => h1 ((wd_2 hG1 (by decide) (j := 6) rfl rfl rfl).mpr w))]) _ z1)
    · skip
      replace h1 := (wd_2 hG1 (by decide) (j := 6) rfl rfl rfl).mp h1
      refine go_aloadn0 (q := 29) dX4_goesCoin_28 rfl ?_
      refine go_iconstN (n := 0) (q := 30) dX4_goesCoin_29 rfl ?_
      refine go_iconstN (n := 3) (q := 31) dX4_goesCoin_30 rfl ?_
      refine go_ix2 (q := 34) dX4_goesCoin_31 lk_X4_234 (by decide) (by decide) (Nat.le_of_ble_eq_true rfl) rfl (r_goesNumber z1.1 hG1 (l := 0) (m := 3) (by decide) (by decide) (fun X2 y2 hG2 v2 => ?_))
      have z2 := z1.tm y2
      refine go_ifneB (tgt := 39) (q := 37) dX4_goesCoin_34 (by decide) rfl (fun h2 => ?_) (fun h2 => ?_)
      · skip
        refine go_aloadn0 (q := 40) dX4_goesCoin_39 rfl ?_
        refine go_xg (q := 43) dX4_goesCoin_40 fl_X4_212 rfl rfl ?_
        rw [v2 h2]
        refine go_istoren2 (q := 44) dX4_goesCoin_43 rfl (by decide) rfl ?_
        refine go_aloadn0 (q := 45) dX4_goesCoin_44 rfl ?_
        refine go_ix0 (q := 48) dX4_goesCoin_45 lk_X4_225 (by decide) (by decide) (Nat.le_of_ble_eq_true rfl) rfl (r_nextToken hG2.1 z2.1.1 z2.1.2.1 z2.1.2.2.2.2.1 hG2.2.2.1 (fun X3 y3 => ?_))
        have z3 := z2.tm y3
        have hG3 := tkn_G hG2.1 hG2.2.2.1
        refine go_aloadn0 (q := 49) dX4_goesCoin_48 rfl ?_
        refine go_bipushN (v := 115) (q := 51) dX4_goesCoin_49 (by decide) rfl ?_
        refine go_bipushN (v := 105) (q := 53) dX4_goesCoin_51 (by decide) rfl ?_
        refine go_bipushN (v := 122) (q := 55) dX4_goesCoin_53 (by decide) rfl ?_
        refine go_bipushN (v := 101) (q := 57) dX4_goesCoin_55 (by decide) rfl ?_
        refine go_ix4 (q := 60) dX4_goesCoin_57 lk_X4_222 (by decide) (by decide) (Nat.le_of_ble_eq_true rfl) rfl (r_isWord4 z3.1 hG3 ?_)
        refine go_ifeqB (tgt := 73) (q := 63) dX4_goesCoin_60 (by decide) rfl (fun h3 => ?_) (fun h3 => ?_)
        · skip
          refine go_iconstN (n := 0) (q := 74) dX4_goesCoin_73 rfl ?_
          exact go_zretF dX4_goesCoin_74 rfl Bool.false_ne_true (hQ false _ _ (by rw [if_pos hn]; unfold pcoin; rw [if_neg (Decidable.not_not.mpr h1), if_neg (Decidable.not_not.mpr h2), if_pos (fun w => h3 ((wd_4 hG3 (by decide) (j := 7) rfl rfl rfl rfl rfl).mpr w))]) _ z3)
        · skip
          replace h3 := (wd_4 hG3 (by decide) (j := 7) rfl rfl rfl rfl rfl).mp h3
          refine go_aloadn0 (q := 64) dX4_goesCoin_63 rfl ?_
          refine go_iconstN (n := 0) (q := 65) dX4_goesCoin_64 rfl ?_
          refine go_bipushN (v := 99) (q := 67) dX4_goesCoin_65 (by decide) rfl ?_
          refine go_ix2 (q := 70) dX4_goesCoin_67 lk_X4_234 (by decide) (by decide) (Nat.le_of_ble_eq_true rfl) rfl (r_goesNumber z3.1 hG3 (l := 0) (m := 99) (by decide) (by decide) (fun X4 y4 hG4 v4 => ?_))
          have z4 := z3.tm y4
          refine go_ifneB (tgt := 75) (q := 73) dX4_goesCoin_70 (by decide) rfl (fun h4 => ?_) (fun h4 => ?_)
          · skip
            refine go_aloadn0 (q := 76) dX4_goesCoin_75 rfl ?_
            refine go_iloadn1 (q := 77) dX4_goesCoin_76 rfl ?_
            refine go_iloadn2 (q := 78) dX4_goesCoin_77 rfl ?_
            refine go_aloadn0 (q := 79) dX4_goesCoin_78 rfl ?_
            refine go_xg (q := 82) dX4_goesCoin_79 fl_X4_212 rfl rfl ?_
            rw [v4 h4]
            refine go_ix3 (q := 85) dX4_goesCoin_82 lk_X4_72 (by decide) (by decide) (Nat.le_of_ble_eq_true rfl) rfl (r_comes (by rw [z4.2.1]; exact hn) (fun X5 y5 => ?_))
            have z5 := z4.xc y5
            rw [z4.2.1] at z5 ⊢
            refine go_istoren3 (q := 86) dX4_goesCoin_85 rfl (by decide) rfl ?_
            refine go_aloadn0 (q := 87) dX4_goesCoin_86 rfl ?_
            refine go_ix0 (q := 90) dX4_goesCoin_87 lk_X4_225 (by decide) (by decide) (Nat.le_of_ble_eq_true rfl) rfl (r_nextToken hG4.1 z5.1.1 z5.1.2.1 z5.1.2.2.2.2.1 hG4.2.2.1 (fun X6 y6 => ?_))
            have z6 := z5.tm y6
            have hG5 := tkn_G hG4.1 hG4.2.2.1
            exact r_goesCoin_90 hn h1 h2 h3 h4 hG5 z6 hQ
          · skip
            refine go_iconstN (n := 0) (q := 74) dX4_goesCoin_73 rfl ?_
            exact go_zretF dX4_goesCoin_74 rfl Bool.false_ne_true (hQ false _ _ (by rw [if_pos hn]; unfold pcoin; rw [if_neg (Decidable.not_not.mpr h1), if_neg (Decidable.not_not.mpr h2), if_neg (Decidable.not_not.mpr h3), if_pos h4]) _ z4)
      · skip
        refine go_iconstN (n := 0) (q := 38) dX4_goesCoin_37 rfl ?_
        exact go_zretF dX4_goesCoin_38 rfl Bool.false_ne_true (hQ false _ _ (by rw [if_pos hn]; unfold pcoin; rw [if_neg (Decidable.not_not.mpr h1), if_pos h2]) _ z2)
  · skip
    refine go_iconstN (n := 0) (q := 12) dX4_goesCoin_11 rfl ?_
    exact go_zretF dX4_goesCoin_12 rfl Bool.false_ne_true (hQ false _ _ (by rw [if_neg (by omega)]) _ z0)

set_option maxHeartbeats 4000000 in
set_option maxRecDepth 100000 in
theorem r_goesLoan_66 {S : St} {N : Nat → Nat → Int64} {X : St} {Y : Nat → Int64} {Q : Option Value → AH → Prop} {T : Mk} (hn : X 0 13 1 < 8) (hQ : ∀ b T' M', (if X 0 13 1 < 8 then ploan T (X 0) else (false, T, X 0)) = (b, T', M') → ∀ X', Tx X X' T' M' → Q (some (.int (bI (b = true)))) (hp S N X' Y)) (h1 : nb (tkn T) 0 3) (h2 : wd (tkn (tkn T)) 13) (h3 : nb (tkn (tkn (tkn T))) 0 3) (hA : ¬ ((tkn (tkn (tkn T))) 1 1 = 2 ∧ (tkn (tkn (tkn T))) 1 4 = (tkn T) 1 4)) (hG3 : tpG (tkn (tkn (tkn T)))) {X3 : St} (z3 : Tx X X3 (tkn (tkn (tkn T))) (X 0)) : Go 4 RX4 cX4_goesLoan 5 (some .boolean) 66 [some (.ref 69), some (.int (nI ((tkn T) 1 4))), some (.int (nI ((tkn (tkn (tkn T))) 1 4))), none, none] [] (hp S N X3 Y) Q := by
  refine go_aloadn0 (q := 67) dX4_goesLoan_66 rfl ?_
  refine go_iconstN (n := 1) (q := 68) dX4_goesLoan_67 rfl ?_
  refine go_sipushN (v := 9999) (q := 71) dX4_goesLoan_68 (by decide) rfl ?_
  refine go_ix2 (q := 74) dX4_goesLoan_71 lk_X4_234 (by decide) (by decide) (Nat.le_of_ble_eq_true rfl) rfl (r_goesNumber z3.1 hG3 (l := 1) (m := 9999) (by decide) (by decide) (fun X4 y4 hG4 v4 => ?_))
  have z4 := z3.tm y4
  refine go_ifneB (tgt := 79) (q := 77) dX4_goesLoan_74 (by decide) rfl (fun h4 => ?_) (fun h4 => ?_)
  · skip
    refine go_aloadn0 (q := 80) dX4_goesLoan_79 rfl ?_
    refine go_xg (q := 83) dX4_goesLoan_80 fl_X4_212 rfl rfl ?_
    rw [v4 h4]
    refine go_istoren3 (q := 84) dX4_goesLoan_83 rfl (by decide) rfl ?_
    refine go_aloadn0 (q := 85) dX4_goesLoan_84 rfl ?_
    refine go_ix0 (q := 88) dX4_goesLoan_85 lk_X4_225 (by decide) (by decide) (Nat.le_of_ble_eq_true rfl) rfl (r_nextToken hG4.1 z4.1.1 z4.1.2.1 z4.1.2.2.2.2.1 hG4.2.2.1 (fun X5 y5 => ?_))
    have z5 := z4.tm y5
    have hG5 := tkn_G hG4.1 hG4.2.2.1
    refine go_aloadn0 (q := 89) dX4_goesLoan_88 rfl ?_
    refine go_bipushN (v := 105) (q := 91) dX4_goesLoan_89 (by decide) rfl ?_
    refine go_bipushN (v := 110) (q := 93) dX4_goesLoan_91 (by decide) rfl ?_
    refine go_ix2 (q := 96) dX4_goesLoan_93 lk_X4_231 (by decide) (by decide) (Nat.le_of_ble_eq_true rfl) rfl (r_isWord2 z5.1 hG5 ?_)
    refine go_ifeqB (tgt := 109) (q := 99) dX4_goesLoan_96 (by decide) rfl (fun h5 => ?_) (fun h5 => ?_)
    · skip
      refine go_iconstN (n := 0) (q := 110) dX4_goesLoan_109 rfl ?_
      exact go_zretF dX4_goesLoan_110 rfl Bool.false_ne_true (hQ false _ _ (by rw [if_pos hn]; unfold ploan; rw [if_neg (Decidable.not_not.mpr h1), if_neg (Decidable.not_not.mpr h2), if_neg hA, if_neg (Decidable.not_not.mpr h3), if_neg (Decidable.not_not.mpr h4), if_pos (fun w => h5 ((wd_2 hG5 (by decide) (j := 14) rfl rfl rfl).mpr w))]) _ z5)
    · skip
      replace h5 := (wd_2 hG5 (by decide) (j := 14) rfl rfl rfl).mp h5
      refine go_aloadn0 (q := 100) dX4_goesLoan_99 rfl ?_
      refine go_iconstN (n := 1) (q := 101) dX4_goesLoan_100 rfl ?_
      refine go_bipushN (v := 120) (q := 103) dX4_goesLoan_101 (by decide) rfl ?_
      refine go_ix2 (q := 106) dX4_goesLoan_103 lk_X4_234 (by decide) (by decide) (Nat.le_of_ble_eq_true rfl) rfl (r_goesNumber z5.1 hG5 (l := 1) (m := 120) (by decide) (by decide) (fun X6 y6 hG6 v6 => ?_))
      have z6 := z5.tm y6
      refine go_ifneB (tgt := 111) (q := 109) dX4_goesLoan_106 (by decide) rfl (fun h6 => ?_) (fun h6 => ?_)
      · skip
        refine go_aloadn0 (q := 112) dX4_goesLoan_111 rfl ?_
        refine go_iloadn1 (q := 113) dX4_goesLoan_112 rfl ?_
        refine go_iloadn2 (q := 114) dX4_goesLoan_113 rfl ?_
        refine go_iloadn3 (q := 115) dX4_goesLoan_114 rfl ?_
        refine go_aloadn0 (q := 116) dX4_goesLoan_115 rfl ?_
        refine go_xg (q := 119) dX4_goesLoan_116 fl_X4_212 rfl rfl ?_
        rw [v6 h6]
        refine go_ix4 (q := 122) dX4_goesLoan_119 lk_X4_142 (by decide) (by decide) (Nat.le_of_ble_eq_true rfl) rfl (r_lends (by rw [z6.2.1]; exact hn) (fun X7 y7 => ?_))
        have z7 := z6.xc y7
        rw [z6.2.1] at z7
        refine go_istore4 (q := 124) dX4_goesLoan_122 rfl (by decide) rfl ?_
        refine go_aloadn0 (q := 125) dX4_goesLoan_124 rfl ?_
        refine go_ix0 (q := 128) dX4_goesLoan_125 lk_X4_225 (by decide) (by decide) (Nat.le_of_ble_eq_true rfl) rfl (r_nextToken hG6.1 z7.1.1 z7.1.2.1 z7.1.2.2.2.2.1 hG6.2.2.1 (fun X8 y8 => ?_))
        have z8 := z7.tm y8
        refine go_iconstN (n := 1) (q := 129) dX4_goesLoan_128 rfl ?_
        exact go_zretT dX4_goesLoan_129 rfl rfl (hQ true _ _ (by rw [if_pos hn]; unfold ploan; rw [if_neg (Decidable.not_not.mpr h1), if_neg (Decidable.not_not.mpr h2), if_neg hA, if_neg (Decidable.not_not.mpr h3), if_neg (Decidable.not_not.mpr h4), if_neg (Decidable.not_not.mpr h5), if_neg (Decidable.not_not.mpr h6)]) _ z8)
      · skip
        refine go_iconstN (n := 0) (q := 110) dX4_goesLoan_109 rfl ?_
        exact go_zretF dX4_goesLoan_110 rfl Bool.false_ne_true (hQ false _ _ (by rw [if_pos hn]; unfold ploan; rw [if_neg (Decidable.not_not.mpr h1), if_neg (Decidable.not_not.mpr h2), if_neg hA, if_neg (Decidable.not_not.mpr h3), if_neg (Decidable.not_not.mpr h4), if_neg (Decidable.not_not.mpr h5), if_pos h6]) _ z6)
  · skip
    refine go_iconstN (n := 0) (q := 78) dX4_goesLoan_77 rfl ?_
    exact go_zretF dX4_goesLoan_78 rfl Bool.false_ne_true (hQ false _ _ (by rw [if_pos hn]; unfold ploan; rw [if_neg (Decidable.not_not.mpr h1), if_neg (Decidable.not_not.mpr h2), if_neg hA, if_neg (Decidable.not_not.mpr h3), if_pos h4]) _ z4)

set_option maxHeartbeats 4000000 in
set_option maxRecDepth 100000 in
theorem r_goesLoan {S : St} {N : Nat → Nat → Int64} {X : St} {Y : Nat → Int64} {Q : Option Value → AH → Prop} {T : Mk} (hR : TR X T) (hG : tpG T) (hn8 : X 0 13 1 ≤ 8) (hQ : ∀ b T' M', (if X 0 13 1 < 8 then ploan T (X 0) else (false, T, X 0)) = (b, T', M') → ∀ X', Tx X X' T' M' → Q (some (.int (bI (b = true)))) (hp S N X' Y)) : Cn 4 yX4_goesLoan cX4_goesLoan 5 (some .boolean) [.ref 69] (hp S N X Y) Q := by
  refine cn_of (own := RX4) (lo := [some (.ref 69), none, none, none, none]) 4 rfl (by decide +kernel) rfl (Nat.le_of_ble_eq_true rfl) ?_
  have z0 := Tx.rf hR
  have hG0 := hG
  refine go_aloadn0 (q := 1) dX4_goesLoan_0 rfl ?_
  refine go_xg (q := 4) dX4_goesLoan_1 fl_X4_7 rfl rfl ?_
  refine go_iconstN (n := 1) (q := 5) dX4_goesLoan_4 rfl ?_
  refine go_rld (q := 6) dX4_goesLoan_5 (rr_13 (f := 1) (by decide)) rfl ?_
  refine go_bipushN (v := 8) (q := 8) dX4_goesLoan_6 (by decide) rfl ?_
  refine go_icmp_eqN (tgt := 20) (q := 11) dX4_goesLoan_8 (by decide) rfl (by omega) (by omega) (fun h0 => ?_) (fun h0 => ?_)
  · skip
    refine go_iconstN (n := 0) (q := 21) dX4_goesLoan_20 rfl ?_
    exact go_zretF dX4_goesLoan_21 rfl Bool.false_ne_true (hQ false _ _ (by rw [if_neg (by omega)]) _ z0)
  · skip
    have hn : X 0 13 1 < 8 := by omega
    refine go_aloadn0 (q := 12) dX4_goesLoan_11 rfl ?_
    refine go_iconstN (n := 0) (q := 13) dX4_goesLoan_12 rfl ?_
    refine go_iconstN (n := 3) (q := 14) dX4_goesLoan_13 rfl ?_
    refine go_ix2 (q := 17) dX4_goesLoan_14 lk_X4_234 (by decide) (by decide) (Nat.le_of_ble_eq_true rfl) rfl (r_goesNumber z0.1 hG0 (l := 0) (m := 3) (by decide) (by decide) (fun X1 y1 hG1 v1 => ?_))
    have z1 := z0.tm y1
    refine go_ifneB (tgt := 22) (q := 20) dX4_goesLoan_17 (by decide) rfl (fun h1 => ?_) (fun h1 => ?_)
    · skip
      refine go_aloadn0 (q := 23) dX4_goesLoan_22 rfl ?_
      refine go_xg (q := 26) dX4_goesLoan_23 fl_X4_212 rfl rfl ?_
      rw [v1 h1]
      refine go_istoren1 (q := 27) dX4_goesLoan_26 rfl (by decide) rfl ?_
      refine go_aloadn0 (q := 28) dX4_goesLoan_27 rfl ?_
      refine go_ix0 (q := 31) dX4_goesLoan_28 lk_X4_225 (by decide) (by decide) (Nat.le_of_ble_eq_true rfl) rfl (r_nextToken hG1.1 z1.1.1 z1.1.2.1 z1.1.2.2.2.2.1 hG1.2.2.1 (fun X2 y2 => ?_))
      have z2 := z1.tm y2
      have hG2 := tkn_G hG1.1 hG1.2.2.1
      refine go_aloadn0 (q := 32) dX4_goesLoan_31 rfl ?_
      refine go_bipushN (v := 116) (q := 34) dX4_goesLoan_32 (by decide) rfl ?_
      refine go_bipushN (v := 111) (q := 36) dX4_goesLoan_34 (by decide) rfl ?_
      refine go_ix2 (q := 39) dX4_goesLoan_36 lk_X4_231 (by decide) (by decide) (Nat.le_of_ble_eq_true rfl) rfl (r_isWord2 z2.1 hG2 ?_)
      refine go_ifeqB (tgt := 59) (q := 42) dX4_goesLoan_39 (by decide) rfl (fun h2 => ?_) (fun h2 => ?_)
      · skip
        refine go_iconstN (n := 0) (q := 60) dX4_goesLoan_59 rfl ?_
        exact go_zretF dX4_goesLoan_60 rfl Bool.false_ne_true (hQ false _ _ (by rw [if_pos hn]; unfold ploan; rw [if_neg (Decidable.not_not.mpr h1), if_pos (fun w => h2 ((wd_2 hG2 (by decide) (j := 13) rfl rfl rfl).mpr w))]) _ z2)
      · skip
        replace h2 := (wd_2 hG2 (by decide) (j := 13) rfl rfl rfl).mp h2
        refine go_aloadn0 (q := 43) dX4_goesLoan_42 rfl ?_
        refine go_iconstN (n := 0) (q := 44) dX4_goesLoan_43 rfl ?_
        refine go_iconstN (n := 3) (q := 45) dX4_goesLoan_44 rfl ?_
        refine go_ix2 (q := 48) dX4_goesLoan_45 lk_X4_234 (by decide) (by decide) (Nat.le_of_ble_eq_true rfl) rfl (r_goesNumber z2.1 hG2 (l := 0) (m := 3) (by decide) (by decide) (fun X3 y3 hG3 v3 => ?_))
        have z3 := z2.tm y3
        refine go_ifeqB (tgt := 59) (q := 51) dX4_goesLoan_48 (by decide) rfl (fun h3 => ?_) (fun h3 => ?_)
        · skip
          refine go_iconstN (n := 0) (q := 60) dX4_goesLoan_59 rfl ?_
          exact go_zretF dX4_goesLoan_60 rfl Bool.false_ne_true (hQ false _ _ (by rw [if_pos hn]; unfold ploan; rw [if_neg (Decidable.not_not.mpr h1), if_neg (Decidable.not_not.mpr h2)]; split <;> rfl) _ z3)
        · skip
          refine go_aloadn0 (q := 52) dX4_goesLoan_51 rfl ?_
          refine go_xg (q := 55) dX4_goesLoan_52 fl_X4_212 rfl rfl ?_
          rw [v3 h3]
          refine go_iloadn1 (q := 56) dX4_goesLoan_55 rfl ?_
          refine go_icmp_neN (tgt := 61) (q := 59) dX4_goesLoan_56 (by decide) rfl (by have := h3.2.2; omega) (by have := h1.2.2; omega) (fun h4 => ?_) (fun h4 => ?_)
          · skip
            refine go_aloadn0 (q := 62) dX4_goesLoan_61 rfl ?_
            refine go_xg (q := 65) dX4_goesLoan_62 fl_X4_212 rfl rfl ?_
            rw [v3 h3]
            refine go_istoren2 (q := 66) dX4_goesLoan_65 rfl (by decide) rfl ?_
            exact r_goesLoan_66 hn hQ h1 h2 h3 (fun w => h4 w.2) hG3 z3
          · skip
            refine go_iconstN (n := 0) (q := 60) dX4_goesLoan_59 rfl ?_
            exact go_zretF dX4_goesLoan_60 rfl Bool.false_ne_true (hQ false _ _ (by rw [if_pos hn]; unfold ploan; rw [if_neg (Decidable.not_not.mpr h1), if_neg (Decidable.not_not.mpr h2), if_pos ⟨h3.1, h4⟩]) _ z3)
    · skip
      refine go_iconstN (n := 0) (q := 21) dX4_goesLoan_20 rfl ?_
      exact go_zretF dX4_goesLoan_21 rfl Bool.false_ne_true (hQ false _ _ (by rw [if_pos hn]; unfold ploan; rw [if_pos h1]) _ z1)

set_option maxHeartbeats 4000000 in
set_option maxRecDepth 100000 in
theorem r_goesItem_86 {S : St} {N : Nat → Nat → Int64} {X : St} {Y : Nat → Int64} {Q : Option Value → AH → Prop} {T : Mk} (hR : TR X T) (hG : tpG T) (hwc : X 0 13 0 ≤ 12 ∧ X 0 13 1 ≤ 8) (hQ : ∀ b T' M', pitem T (X 0) = (b, T', M') → ∀ X', Tx X X' T' M' → Q (some (.int (bI (b = true)))) (hp S N X' Y)) (k6 : ¬ kn T < 6) (h2 : ¬ wd T 10) (h3 : ¬ wd T 11) : Go 5 RX4 cX4_goesItem 2 (some .boolean) 86 [some (.ref 69), none] [] (hp S N X Y) Q := by
  refine go_aloadn0 (q := 87) dX4_goesItem_86 rfl ?_
  refine go_bipushN (v := 108) (q := 89) dX4_goesItem_87 (by decide) rfl ?_
  refine go_bipushN (v := 111) (q := 91) dX4_goesItem_89 (by decide) rfl ?_
  refine go_bipushN (v := 97) (q := 93) dX4_goesItem_91 (by decide) rfl ?_
  refine go_bipushN (v := 110) (q := 95) dX4_goesItem_93 (by decide) rfl ?_
  refine go_ix4 (q := 98) dX4_goesItem_95 lk_X4_222 (by decide) (by decide) (Nat.le_of_ble_eq_true rfl) rfl (r_isWord4 hR hG ?_)
  refine go_ifeqB (tgt := 112) (q := 101) dX4_goesItem_98 (by decide) rfl (fun h4 => ?_) (fun h4 => ?_)
  · skip
    refine go_iconstN (n := 0) (q := 113) dX4_goesItem_112 rfl ?_
    exact go_zretF dX4_goesItem_113 rfl Bool.false_ne_true (hQ false _ _ (by unfold pitem; rw [if_neg k6, if_neg h2, if_neg h3, if_neg (fun w => h4 ((wd_4 hG (by decide) (j := 12) rfl rfl rfl rfl rfl).mpr w.1))]) _ (Tx.rf hR))
  · skip
    replace h4 := (wd_4 hG (by decide) (j := 12) rfl rfl rfl rfl rfl).mp h4
    refine go_aloadn0 (q := 102) dX4_goesItem_101 rfl ?_
    refine go_ix0 (q := 105) dX4_goesItem_102 lk_X4_247 (by decide) (by decide) (Nat.le_of_ble_eq_true rfl) rfl (r_goesLoan hR hG hwc.2 (fun b T1 M1 e1 X1 z1 => ?_))
    have e2 : pitem T (X 0) = (b, T1, M1) := by unfold pitem; rw [if_neg k6, if_neg h2, if_neg h3, pi_and h4]; exact e1
    refine go_ifeqB (tgt := 112) (q := 108) dX4_goesItem_105 (by decide) rfl (fun hb => ?_) (fun hb => ?_)
    · skip
      refine go_iconstN (n := 0) (q := 113) dX4_goesItem_112 rfl ?_
      exact go_zretF dX4_goesItem_113 rfl hb (hQ _ _ _ e2 _ z1)
    · skip
      refine go_iconstN (n := 1) (q := 109) dX4_goesItem_108 rfl ?_
      refine go_goto (tgt := 113) dX4_goesItem_109 (by decide) ?_
      exact go_zretT dX4_goesItem_113 rfl hb (hQ _ _ _ e2 _ z1)

set_option maxHeartbeats 4000000 in
set_option maxRecDepth 100000 in
theorem r_goesItem {S : St} {N : Nat → Nat → Int64} {X : St} {Y : Nat → Int64} {Q : Option Value → AH → Prop} {T : Mk} (hR : TR X T) (hG : tpG T) (hwc : X 0 13 0 ≤ 12 ∧ X 0 13 1 ≤ 8) (hQ : ∀ b T' M', pitem T (X 0) = (b, T', M') → ∀ X', Tx X X' T' M' → Q (some (.int (bI (b = true)))) (hp S N X' Y)) : Cn 5 yX4_goesItem cX4_goesItem 2 (some .boolean) [.ref 69] (hp S N X Y) Q := by
  refine cn_of (own := RX4) (lo := [some (.ref 69), none]) 1 rfl (by decide +kernel) rfl (Nat.le_of_ble_eq_true rfl) ?_
  have kn6 := kn_le T
  refine go_aloadn0 (q := 1) dX4_goesItem_0 rfl ?_
  refine go_ix0 (q := 4) dX4_goesItem_1 lk_X4_237 (by decide) (by decide) (Nat.le_of_ble_eq_true rfl) rfl (r_kindNamed hR hG ?_)
  refine go_istoren1 (q := 5) dX4_goesItem_4 rfl (by decide) rfl ?_
  refine go_iloadn1 (q := 6) dX4_goesItem_5 rfl ?_
  refine go_if_lt (tgt := 15) (q := 9) dX4_goesItem_6 (by decide) rfl (fun h1 => ?_) (fun h1 => ?_)
  · skip
    have k6 : ¬ kn T < 6 := (tn_lt (by omega)).mp h1
    refine go_aloadn0 (q := 16) dX4_goesItem_15 rfl ?_
    refine go_bipushN (v := 115) (q := 18) dX4_goesItem_16 (by decide) rfl ?_
    refine go_bipushN (v := 111) (q := 20) dX4_goesItem_18 (by decide) rfl ?_
    refine go_bipushN (v := 105) (q := 22) dX4_goesItem_20 (by decide) rfl ?_
    refine go_bipushN (v := 108) (q := 24) dX4_goesItem_22 (by decide) rfl ?_
    refine go_ix4 (q := 27) dX4_goesItem_24 lk_X4_222 (by decide) (by decide) (Nat.le_of_ble_eq_true rfl) rfl (r_isWord4 hR hG ?_)
    refine go_ifeqB (tgt := 39) (q := 30) dX4_goesItem_27 (by decide) rfl (fun h2 => ?_) (fun h2 => ?_)
    · skip
      replace h2 : ¬ wd T 10 := fun w => h2 ((wd_4 hG (by decide) (j := 10) rfl rfl rfl rfl rfl).mpr w)
      refine go_aloadn0 (q := 40) dX4_goesItem_39 rfl ?_
      refine go_iconstN (n := 5) (q := 41) dX4_goesItem_40 rfl ?_
      refine go_ix1 (q := 44) dX4_goesItem_41 lk_X4_215 (by decide) (by decide) (Nat.le_of_ble_eq_true rfl) rfl (r_isWord hR hG (by decide) ?_)
      refine go_ifeqB (tgt := 86) (q := 47) dX4_goesItem_44 (by decide) rfl (fun q1 => ?_) (fun q1 => ?_)
      · skip
        exact go_lz (r_goesItem_86 hR hG hwc hQ k6 h2 (fun w => q1 ((wd_5p hG (by decide) (j := 11) rfl rfl rfl rfl rfl rfl).mpr w).1))
      · skip
        refine go_aloadn0 (q := 48) dX4_goesItem_47 rfl ?_
        refine go_iconstN (n := 0) (q := 49) dX4_goesItem_48 rfl ?_
        refine go_bipushN (v := 112) (q := 51) dX4_goesItem_49 (by decide) rfl ?_
        refine go_bipushN (v := 114) (q := 53) dX4_goesItem_51 (by decide) rfl ?_
        refine go_bipushN (v := 105) (q := 55) dX4_goesItem_53 (by decide) rfl ?_
        refine go_ix4 (q := 58) dX4_goesItem_55 lk_X4_218 (by decide) (by decide) (Nat.le_of_ble_eq_true rfl) rfl (r_has3 hR hG (by decide) ?_)
        refine go_ifeqB (tgt := 86) (q := 61) dX4_goesItem_58 (by decide) rfl (fun q2 => ?_) (fun q2 => ?_)
        · skip
          exact go_lz (r_goesItem_86 hR hG hwc hQ k6 h2 (fun w => q2 ((wd_5p hG (by decide) (j := 11) rfl rfl rfl rfl rfl rfl).mpr w).2.1))
        · skip
          refine go_aloadn0 (q := 62) dX4_goesItem_61 rfl ?_
          refine go_iconstN (n := 2) (q := 63) dX4_goesItem_62 rfl ?_
          refine go_bipushN (v := 105) (q := 65) dX4_goesItem_63 (by decide) rfl ?_
          refine go_bipushN (v := 99) (q := 67) dX4_goesItem_65 (by decide) rfl ?_
          refine go_bipushN (v := 101) (q := 69) dX4_goesItem_67 (by decide) rfl ?_
          refine go_ix4 (q := 72) dX4_goesItem_69 lk_X4_218 (by decide) (by decide) (Nat.le_of_ble_eq_true rfl) rfl (r_has3 hR hG (by decide) ?_)
          refine go_ifeqB (tgt := 86) (q := 75) dX4_goesItem_72 (by decide) rfl (fun q3 => ?_) (fun q3 => ?_)
          · skip
            exact go_lz (r_goesItem_86 hR hG hwc hQ k6 h2 (fun w => q3 ((wd_5p hG (by decide) (j := 11) rfl rfl rfl rfl rfl rfl).mpr w).2.2))
          · skip
            have h3 := (wd_5p hG (by decide) (j := 11) rfl rfl rfl rfl rfl rfl).mp ⟨q1, q2, q3⟩
            refine go_aloadn0 (q := 76) dX4_goesItem_75 rfl ?_
            refine go_bipushN (v := 8) (q := 78) dX4_goesItem_76 (by decide) rfl ?_
            refine go_bipushN (v := 12) (q := 80) dX4_goesItem_78 (by decide) rfl ?_
            refine go_bipushN (v := 99) (q := 82) dX4_goesItem_80 (by decide) rfl ?_
            refine go_ix3 (q := 85) dX4_goesItem_82 lk_X4_243 (by decide) (by decide) (Nat.le_of_ble_eq_true rfl) rfl (r_goesTwo_price hR hG (fun b T1 M1 e1 X1 z1 => ?_))
            exact go_zretB dX4_goesItem_85 rfl (hQ _ _ _ (by unfold pitem; rw [if_neg k6, if_neg h2, if_pos h3]; exact e1) _ z1)
    · skip
      replace h2 := (wd_4 hG (by decide) (j := 10) rfl rfl rfl rfl rfl).mp h2
      refine go_aloadn0 (q := 31) dX4_goesItem_30 rfl ?_
      refine go_iconstN (n := 4) (q := 32) dX4_goesItem_31 rfl ?_
      refine go_iconstN (n := 4) (q := 33) dX4_goesItem_32 rfl ?_
      refine go_bipushN (v := 9) (q := 35) dX4_goesItem_33 (by decide) rfl ?_
      refine go_ix3 (q := 38) dX4_goesItem_35 lk_X4_243 (by decide) (by decide) (Nat.le_of_ble_eq_true rfl) rfl (r_goesTwo_soil hR hG (fun b T1 M1 e1 X1 z1 => ?_))
      exact go_zretB dX4_goesItem_38 rfl (hQ _ _ _ (by unfold pitem; rw [if_neg k6, if_pos h2]; exact e1) _ z1)
  · skip
    have k6 : kn T < 6 := Decidable.not_not.mp (fun w => h1 ((tn_lt (by omega)).mpr w))
    rw [if_pos k6]
    refine go_aloadn0 (q := 10) dX4_goesItem_9 rfl ?_
    refine go_iloadn1 (q := 11) dX4_goesItem_10 rfl ?_
    refine go_ix1 (q := 14) dX4_goesItem_11 lk_X4_240 (by decide) (by decide) (Nat.le_of_ble_eq_true rfl) rfl (r_goesCoin hR hG hwc.1 (fun b T1 M1 e1 X1 z1 => ?_))
    exact go_zretB dX4_goesItem_14 rfl (hQ _ _ _ (by unfold pitem; rw [if_pos k6]; exact e1) _ z1)
