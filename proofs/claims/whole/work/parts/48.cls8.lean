theorem u2_row (T : Mk) {j j' : Nat} (h : j' ≠ j) (i v : Nat) : u2 T j i v j' = T j' := by
  funext c
  unfold u2
  rw [if_neg (fun z => h z.1)]
theorem neg1 {s : Nat} (h : s ≤ 120) : (-1 : Int32) - nI s < 0 := (by decide +kernel : ∀ s, s < 121 → (-1 : Int32) - nI s < 0) s (by omega)

set_option maxHeartbeats 4000000 in
set_option maxRecDepth 100000 in
theorem c_market {S : St} {N : Nat → Nat → Int64} {X : St} {Y : Nat → Int64} {Q : Option Value → AH → Prop} (hw : WF (S 0)) (hT : tpB (S 4)) (hA : ∀ n M', n ≤ 120 → pitems 120 1 (tkn (u2 (S 4) 1 3 0)) (S 0) = (.inl n, M') → ∀ S', S' 0 = M' → S' 1 = S 1 → S' 5 = S 5 → S' 6 = S 6 → S' 4 0 = S 4 0 → S' 4 1 0 = 0 → Q (some (.int (nI n))) (hp S' N X Y)) (hB : ∀ s M', s ≤ 120 → pitems 120 1 (tkn (u2 (S 4) 1 3 0)) (S 0) = (.inr s, M') → ∀ S', S' 0 = S 0 → S' 1 = S 1 → S' 5 = S 5 → S' 6 = S 6 → S' 4 0 = S 4 0 → S' 4 1 0 = 0 → Q (some (.int (-1 - nI s))) (hp S' N X Y)) : Cn 10 yX3_market cX3_market 2 (some .int) [.ref 0] (hp S N X Y) Q := by
  refine cn_of (own := RX3) (lo := [some (.ref 0), none]) 1 rfl (by decide +kernel) rfl (Nat.le_of_ble_eq_true rfl) ?_
  refine go_aloadn0 (q := 1) dX3_market_0 rfl ?_
  refine go_cg (q := 4) dX3_market_1 fl_X3_19 rfl rfl ?_
  refine go_aloadn0 (q := 5) dX3_market_4 rfl ?_
  refine go_cg (q := 8) dX3_market_5 fl_X3_10 rfl rfl ?_
  refine go_im1 (q := 11) dX3_market_8 lk_X3_183 (by decide) (by decide) (Nat.le_of_ble_eq_true rfl) (by decide) rfl (c_become (a := 0) (b := 2) (by decide) (by decide) (by decide) (fun S1 g1 => ?_))
  have e4 : S1 4 = S 4 := g1.2 4 (by decide) (by decide)
  have f0 : S1 0 = S 0 := g1.2 0 (by decide) (by decide)
  have f1 : S1 1 = S 1 := g1.2 1 (by decide) (by decide)
  have f5 : S1 5 = S 5 := g1.2 5 (by decide) (by decide)
  have f6 : S1 6 = S 6 := g1.2 6 (by decide) (by decide)
  have f2 : S1 2 = S 0 := g1.1
  refine go_aloadn0 (q := 12) dX3_market_11 rfl ?_
  refine go_cg (q := 15) dX3_market_12 fl_X3_28 rfl rfl ?_
  refine go_aloadn0 (q := 16) dX3_market_15 rfl ?_
  refine go_cg (q := 19) dX3_market_16 fl_X3_19 rfl rfl ?_
  refine go_it1 (q := 22) dX3_market_19 lk_X3_224 (by decide) (by decide) (Nat.le_of_ble_eq_true rfl) rfl (c_tellItems (by rw [e4]; exact hT) (by rw [f2]; exact ⟨hw.co, hw.lo⟩) (fun n M1 hn he S2 y2 y0 y1 y5 y6 yb yl => ?_) (fun s M1 hs he S2 y0 y1 y5 y6 yb yl => ?_))
  · skip
    rw [e4, f2] at he
    refine go_istoren1 (q := 23) dX3_market_22 rfl (by decide) rfl ?_
    refine go_iloadn1 (q := 24) dX3_market_23 rfl ?_
    refine go_if_ltN (tgt := 38) (q := 27) dX3_market_24 (by decide) rfl (by omega) (fun h1 => ?_) (fun h1 => ?_)
    · skip
      exact h1.elim
    · skip
      refine go_aloadn0 (q := 28) dX3_market_27 rfl ?_
      refine go_cg (q := 31) dX3_market_28 fl_X3_10 rfl rfl ?_
      refine go_aloadn0 (q := 32) dX3_market_31 rfl ?_
      refine go_cg (q := 35) dX3_market_32 fl_X3_19 rfl rfl ?_
      refine go_im1 (q := 38) dX3_market_35 lk_X3_183 (by decide) (by decide) (Nat.le_of_ble_eq_true rfl) (by decide) rfl (c_become (a := 2) (b := 0) (by decide) (by decide) (by decide) (fun S3 g3 => ?_))
      have k1 := g3.2 1 (by decide) (by decide)
      have k5 := g3.2 5 (by decide) (by decide)
      have k6 := g3.2 6 (by decide) (by decide)
      have k4 := g3.2 4 (by decide) (by decide)
      refine go_aloadn0 (q := 39) dX3_market_38 rfl ?_
      refine go_cg (q := 42) dX3_market_39 fl_X3_28 rfl rfl ?_
      refine go_iconstN (n := 0) (q := 43) dX3_market_42 rfl ?_
      refine go_tpf (f := 0) (q := 46) dX3_market_43 fp_X3_218 (by decide) rfl ?_
      refine go_iloadn1 (q := 47) dX3_market_46 rfl ?_
      exact go_iret dX3_market_47 rfl (hA n M1 hn he _ (by rw [u3_oth _ (by decide), g3.1, y2]) (by rw [u3_oth _ (by decide), k1, y1, f1]) (by rw [u3_oth _ (by decide), k5, y5, f5]) (by rw [u3_oth _ (by decide), k6, y6, f6]) (by rw [u3_k, k4]; exact (u2_row _ (by decide) _ _).trans (yb.trans (by rw [e4]))) (by rw [u3_k]; rfl))
  · skip
    rw [e4, f2] at he
    have hneg := neg1 hs
    refine go_istoren1 (q := 23) dX3_market_22 rfl (by decide) rfl ?_
    refine go_iloadn1 (q := 24) dX3_market_23 rfl ?_
    refine go_if_lt (tgt := 38) (q := 27) dX3_market_24 (by decide) rfl (fun h1 => ?_) (fun h1 => ?_)
    · skip
      refine go_aloadn0 (q := 39) dX3_market_38 rfl ?_
      refine go_cg (q := 42) dX3_market_39 fl_X3_28 rfl rfl ?_
      refine go_iconstN (n := 0) (q := 43) dX3_market_42 rfl ?_
      refine go_tpf (f := 0) (q := 46) dX3_market_43 fp_X3_218 (by decide) rfl ?_
      refine go_iloadn1 (q := 47) dX3_market_46 rfl ?_
      exact go_iret dX3_market_47 rfl (hB s M1 hs he _ (by rw [u3_oth _ (by decide), y0, f0]) (by rw [u3_oth _ (by decide), y1, f1]) (by rw [u3_oth _ (by decide), y5, f5]) (by rw [u3_oth _ (by decide), y6, f6]) (by rw [u3_k]; exact (u2_row _ (by decide) _ _).trans (yb.trans (by rw [e4]))) (by rw [u3_k]; rfl))
    · skip
      exact absurd hneg h1
