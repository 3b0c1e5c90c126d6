def WL (M : Mk) : Prop := ∀ i, i < M 13 1 → 1 ≤ M 8 i
theorem age1_8 (M : Mk) (i : Nat) : age1 M 8 i = M 8 i := by
  unfold age1 u2
  rw [if_neg (by omega)]
  exact agUp_at (Or.inl ⟨by decide, by decide⟩)
theorem wl_mon1 {M : Mk} (h : WL M) : WL (mon1 M) := by
  intro i hi
  rw [(mon1_13 M).2.1] at hi
  unfold mon1
  rw [payN_at (by omega), age1_8]
  exact h i hi
theorem wl_monN {M : Mk} (h : WL M) (n : Nat) : WL (monN M n) := by
  induction n with
  | zero => exact h
  | succ n ih => exact wl_mon1 ih
theorem wf_paid {M : Mk} (h : WF M) (i : Nat) : WF (u2 M 10 i 1) := h.upd (by omega)
noncomputable def chsF (f : Nat → Nat) (n p s v : Nat) : Nat := if p < v then s else @dite _ (∃ s, IsB f n v s) (Classical.propDecidable _) (fun h => Classical.choose h) (fun _ => 0)
theorem chs_F (M : Mk) (o v : Nat) : chs M o v = chsF (vl M o) (M 13 0) (purse M o) (sets M o) v := rfl
theorem vl_10 (M : Mk) (i w o : Nat) : vl (u2 M 10 i w) o = vl M o := by
  funext c
  unfold vl snd wrt sea u2
  simp
theorem chs_10 (M : Mk) (i w o v : Nat) : chs (u2 M 10 i w) o v = chs M o v := by
  have e1 : u2 M 10 i w 13 0 = M 13 0 := rfl
  have e2 : purse (u2 M 10 i w) o = purse M o := by rw [purse_vl, purse_vl, vl_10, e1]
  have e3 : sets (u2 M 10 i w) o = sets M o := by
    unfold sets
    rw [e1]
    refine setS_cong (fun c _ => ?_)
    unfold snd u2
    simp
  rw [chs_F, chs_F, vl_10, e1, e2, e3]
theorem wset_10 (M : Mk) (i w s : Nat) : wset (u2 M 10 i w) s = wset M s := by
  unfold wset
  rw [show u2 M 10 i w 13 0 = M 13 0 from rfl]
  refine sm_cong (fun c _ => ?_)
  unfold wrt sea u2
  simp
theorem payM_10 (M : Mk) (i w f t v : Nat) : payM (u2 M 10 i w) f t v = u2 (payM M f t v) 10 i w := by
  funext j k
  unfold payM
  rw [chs_10, wset_10]
  unfold u2
  by_cases h : j = 10 ∧ k = i
  · rw [if_pos h, if_neg (by omega), if_neg (by omega), if_pos h]
  · simp [h]
theorem payI_no {M : Mk} {i : Nat} (h : ¬ (payN M i 9 i = payN M i 13 2 ∧ payN M i 10 i = 0)) : payN M (i + 1) = payN M i := by
  show payI (payN M i) i = payN M i
  unfold payI
  rw [if_neg h]
theorem payI_yes {M : Mk} {i : Nat} (h : payN M i 9 i = payN M i 13 2 ∧ payN M i 10 i = 0) : payN M (i + 1) = payM (u2 (payN M i) 10 i 1) (payN M i 6 i) (payN M i 7 i) (payN M i 8 i) := by
  show payI (payN M i) i = _
  unfold payI
  rw [if_pos h, payM_10]

set_option maxHeartbeats 4000000 in
set_option maxRecDepth 100000 in
theorem r_goesOn_240 {S : St} {N : Nat → Nat → Int64} {X : St} {Y : Nat → Int64} {Q : Option Value → AH → Prop} (hw : WF (X 0)) (hl : WL (X 0)) (hm : X 0 13 2 + 1 ≤ 10000) (hO : ∀ X', Xc X X' (mon1 (X 0)) → Q none (hp S N X' Y)) : ∀ (fu : Nat) (i : Nat) (X1 : St), X 0 13 1 - i < fu → (i ≤ X 0 13 1) → (Xc X X1 (payN (age1 (X 0)) i)) → Go 8 RX4 cX4_goesOn 4 none 240 [some (.ref 69), some (.int (nI (68 + 5 * i))), none, none] [] (hp S N X1 Y) Q := by
  intro fu
  induction fu with
  | zero => intro i X1 hfu; exact absurd hfu (Nat.not_lt_zero _)
  | succ fu ih =>
    intro i X1 hfu hi g
    have hlo := hw.lo
    have hwa := hw.age1 hm
    have hwp : WF (payN (age1 (X 0)) i) := wf_payN hwa i
    have hw1 : WF (X1 0) := by rw [g.1]; exact hwp
    have n1 : X1 0 13 1 = age1 (X 0) 13 1 := by rw [g.1]; show payN (age1 (X 0)) i 13 1 = age1 (X 0) 13 1; exact payN_at (by omega)
    have n2 : X1 0 13 1 = X 0 13 1 := n1.trans (age1_13 _).2.1
    have d9 : X1 0 9 i = age1 (X 0) 9 i := by rw [g.1]; show payN (age1 (X 0)) i 9 i = age1 (X 0) 9 i; exact payN_at (by omega)
    have m2 : X1 0 13 2 = age1 (X 0) 13 2 := by rw [g.1]; show payN (age1 (X 0)) i 13 2 = age1 (X 0) 13 2; exact payN_at (by omega)
    have l6 : X1 0 6 i = age1 (X 0) 6 i := by rw [g.1]; show payN (age1 (X 0)) i 6 i = age1 (X 0) 6 i; exact payN_at (by omega)
    have l7 : X1 0 7 i = age1 (X 0) 7 i := by rw [g.1]; show payN (age1 (X 0)) i 7 i = age1 (X 0) 7 i; exact payN_at (by omega)
    have l8 : X1 0 8 i = age1 (X 0) 8 i := by rw [g.1]; show payN (age1 (X 0)) i 8 i = age1 (X 0) 8 i; exact payN_at (by omega)
    have ln := hw1.ln i
    have hmo := hw1.mo
    refine go_iloadn1 (q := 241) dX4_goesOn_240 rfl ?_
    refine go_bipushN (v := 68) (q := 243) dX4_goesOn_241 (by decide) rfl ?_
    refine go_iconstN (n := 5) (q := 244) dX4_goesOn_243 rfl ?_
    refine go_aloadn0 (q := 245) dX4_goesOn_244 rfl ?_
    refine go_xg (q := 248) dX4_goesOn_245 fl_X4_7 rfl rfl ?_
    refine go_iconstN (n := 1) (q := 249) dX4_goesOn_248 rfl ?_
    refine go_rld (q := 250) dX4_goesOn_249 (rr_13 (f := 1) (by decide)) rfl ?_
    rw [n2]
    refine go_imulN (q := 251) dX4_goesOn_250 rfl ?_
    refine go_iaddN (q := 252) dX4_goesOn_251 rfl ?_
    refine go_icmp_geN (tgt := 325) (q := 255) dX4_goesOn_252 (by decide) rfl (by omega) (by omega) (fun h1 => ?_) (fun h1 => ?_)
    · skip
      exact go_ret0 dX4_goesOn_325 rfl (hO _ (g.to (by unfold mon1; rw [show i = X 0 13 1 by omega])))
    · skip
      refine go_aloadn0 (q := 256) dX4_goesOn_255 rfl ?_
      refine go_xg (q := 259) dX4_goesOn_256 fl_X4_7 rfl rfl ?_
      refine go_iloadn1 (q := 260) dX4_goesOn_259 rfl ?_
      refine go_iconstN (n := 3) (q := 261) dX4_goesOn_260 rfl ?_
      refine go_iaddN (q := 262) dX4_goesOn_261 rfl ?_
      refine go_rld (q := 263) dX4_goesOn_262 (rr_loan (w := 3) (show i < 8 by omega) (by decide)) rfl ?_
      refine go_st (st' := [.int (nI (X1 0 9 i))]) rfl ?_
      refine go_aloadn0 (q := 264) dX4_goesOn_263 rfl ?_
      refine go_xg (q := 267) dX4_goesOn_264 fl_X4_7 rfl rfl ?_
      refine go_iconstN (n := 2) (q := 268) dX4_goesOn_267 rfl ?_
      refine go_rld (q := 269) dX4_goesOn_268 (rr_13 (f := 2) (by decide)) rfl ?_
      refine go_icmp_neN (tgt := 319) (q := 272) dX4_goesOn_269 (by decide) rfl (by omega) (by omega) (fun h2 => ?_) (fun h2 => ?_)
      · skip
        refine go_iincN1 (n := 5) (q := 322) dX4_goesOn_319 rfl (by decide) rfl ?_
        refine go_goto (tgt := 240) dX4_goesOn_322 (by decide) ?_
        refine go_forget (lo' := [some (.ref 69), some (.int (nI (68 + 5 * (i + 1)))), none, none]) (fun k v hk => by match k, hk with | 0, h => exact h | 1, h => exact h | 2, h => cases h | 3, h => cases h) ?_
        exact ih (i + 1) X1 (by omega) (by omega) (g.to (payI_no (by rw [← g.1]; exact fun w => h2 w.1)).symm)
      · skip
        refine go_aloadn0 (q := 273) dX4_goesOn_272 rfl ?_
        refine go_xg (q := 276) dX4_goesOn_273 fl_X4_7 rfl rfl ?_
        refine go_iloadn1 (q := 277) dX4_goesOn_276 rfl ?_
        refine go_iconstN (n := 4) (q := 278) dX4_goesOn_277 rfl ?_
        refine go_iaddN (q := 279) dX4_goesOn_278 rfl ?_
        refine go_rld (q := 280) dX4_goesOn_279 (rr_loan (w := 4) (show i < 8 by omega) (by decide)) rfl ?_
        refine go_st (st' := [.int (nI (X1 0 10 i))]) rfl ?_
        refine go_if_neN (tgt := 319) (q := 283) dX4_goesOn_280 (by decide) rfl (by omega) (fun h3 => ?_) (fun h3 => ?_)
        · skip
          refine go_iincN1 (n := 5) (q := 322) dX4_goesOn_319 rfl (by decide) rfl ?_
          refine go_goto (tgt := 240) dX4_goesOn_322 (by decide) ?_
          refine go_forget (lo' := [some (.ref 69), some (.int (nI (68 + 5 * (i + 1)))), none, none]) (fun k v hk => by match k, hk with | 0, h => exact h | 1, h => exact h | 2, h => cases h | 3, h => cases h) ?_
          exact ih (i + 1) X1 (by omega) (by omega) (g.to (payI_no (by rw [← g.1]; exact fun w => h3 w.2)).symm)
        · skip
          refine go_aloadn0 (q := 284) dX4_goesOn_283 rfl ?_
          refine go_xg (q := 287) dX4_goesOn_284 fl_X4_7 rfl rfl ?_
          refine go_iloadn1 (q := 288) dX4_goesOn_287 rfl ?_
          refine go_iconstN (n := 4) (q := 289) dX4_goesOn_288 rfl ?_
          refine go_iaddN (q := 290) dX4_goesOn_289 rfl ?_
          refine go_iconstN (n := 1) (q := 291) dX4_goesOn_290 rfl ?_
          refine go_rst (q := 292) dX4_goesOn_291 (rr_loan (w := 4) (show i < 8 by omega) (by decide)) rfl ?_
          refine go_aloadn0 (q := 293) dX4_goesOn_292 rfl ?_
          refine go_aloadn0 (q := 294) dX4_goesOn_293 rfl ?_
          refine go_xg (q := 297) dX4_goesOn_294 fl_X4_7 rfl rfl ?_
          refine go_iloadn1 (q := 298) dX4_goesOn_297 rfl ?_
          refine go_rld (q := 299) dX4_goesOn_298 (rr_loan (w := 0) (show i < 8 by omega) (by decide)) rfl ?_
          refine go_aloadn0 (q := 300) dX4_goesOn_299 rfl ?_
          refine go_xg (q := 303) dX4_goesOn_300 fl_X4_7 rfl rfl ?_
          refine go_iloadn1 (q := 304) dX4_goesOn_303 rfl ?_
          refine go_iconstN (n := 1) (q := 305) dX4_goesOn_304 rfl ?_
          refine go_iaddN (q := 306) dX4_goesOn_305 rfl ?_
          refine go_rld (q := 307) dX4_goesOn_306 (rr_loan (w := 1) (show i < 8 by omega) (by decide)) rfl ?_
          refine go_aloadn0 (q := 308) dX4_goesOn_307 rfl ?_
          refine go_xg (q := 311) dX4_goesOn_308 fl_X4_7 rfl rfl ?_
          refine go_iloadn1 (q := 312) dX4_goesOn_311 rfl ?_
          refine go_iconstN (n := 2) (q := 313) dX4_goesOn_312 rfl ?_
          refine go_iaddN (q := 314) dX4_goesOn_313 rfl ?_
          refine go_rld (q := 315) dX4_goesOn_314 (rr_loan (w := 2) (show i < 8 by omega) (by decide)) rfl ?_
          refine go_st (st' := [.int (nI (X1 0 8 i)), .int (nI (X1 0 7 i)), .int (nI (X1 0 6 i)), .ref 69]) rfl ?_
          have hwu : WF (u3 X1 0 10 i 1 0) := by rw [u3_k]; exact wf_paid hw1 i
          have h8 : 1 ≤ X1 0 8 i := by rw [l8, age1_8]; exact hl i (by omega)
          refine go_ix3 (q := 318) dX4_goesOn_315 lk_X4_134 (by decide) (by decide) (Nat.le_of_ble_eq_true rfl) rfl (r_pays (X := u3 X1 0 10 i 1) hwu (by omega) h8 (by omega) (fun X2 g2 => ?_))
          refine go_istoren2 (q := 319) dX4_goesOn_318 rfl (by decide) rfl ?_
          refine go_iincN1 (n := 5) (q := 322) dX4_goesOn_319 rfl (by decide) rfl ?_
          refine go_goto (tgt := 240) dX4_goesOn_322 (by decide) ?_
          refine go_forget (lo' := [some (.ref 69), some (.int (nI (68 + 5 * (i + 1)))), none, none]) (fun k v hk => by match k, hk with | 0, h => exact h | 1, h => exact h | 2, h => cases h | 3, h => cases h) ?_
          exact ih (i + 1) X2 (by omega) (by omega) (((g.u 10 i 1).tr g2).to (by rw [u3_k, g.1, payI_yes (by rw [← g.1]; exact ⟨h2, h3⟩)]))

set_option maxHeartbeats 4000000 in
set_option maxRecDepth 100000 in
theorem r_goesOn_227 {S : St} {N : Nat → Nat → Int64} {X : St} {Y : Nat → Int64} {Q : Option Value → AH → Prop} {X1 : St} (hw : WF (X 0)) (hl : WL (X 0)) (hm : X 0 13 2 + 1 ≤ 10000) (g : Xc X X1 (agUp (X 0) (X 0 13 0))) (hO : ∀ X', Xc X X' (mon1 (X 0)) → Q none (hp S N X' Y)) : Go 8 RX4 cX4_goesOn 4 none 227 [some (.ref 69), none, none, none] [] (hp S N X1 Y) Q := by
  have e2 : X1 0 13 2 = X 0 13 2 := by rw [g.1]; show agUp (X 0) (X 0 13 0) 13 2 = X 0 13 2; exact agUp_at (Or.inl ⟨by decide, by decide⟩)
  refine go_aloadn0 (q := 228) dX4_goesOn_227 rfl ?_
  refine go_xg (q := 231) dX4_goesOn_228 fl_X4_7 rfl rfl ?_
  refine go_iconstN (n := 2) (q := 232) dX4_goesOn_231 rfl ?_
  refine go_dup2 (q := 233) dX4_goesOn_232 rfl rfl rfl ?_
  refine go_rld (q := 234) dX4_goesOn_233 (rr_13 (f := 2) (by decide)) rfl ?_
  rw [e2]
  refine go_iconstN (n := 1) (q := 235) dX4_goesOn_234 rfl ?_
  refine go_iaddN (q := 236) dX4_goesOn_235 rfl ?_
  refine go_rst (q := 237) dX4_goesOn_236 (rr_13 (f := 2) (by decide)) rfl ?_
  refine go_bipushN (v := 68) (q := 239) dX4_goesOn_237 (by decide) rfl ?_
  refine go_istoren1 (q := 240) dX4_goesOn_239 rfl (by decide) rfl ?_
  exact r_goesOn_240 hw hl hm hO (X 0 13 1 + 1) 0 _ (by omega) (by omega) ((g.u 13 2 _).to rfl)

set_option maxHeartbeats 4000000 in
set_option maxRecDepth 100000 in
theorem r_goesOn {S : St} {N : Nat → Nat → Int64} {X : St} {Y : Nat → Int64} {Q : Option Value → AH → Prop} (hw : WF (X 0)) (hl : WL (X 0)) (hm : X 0 13 2 + 1 ≤ 10000) (hO : ∀ X', Xc X X' (mon1 (X 0)) → Q none (hp S N X' Y)) : Cn 8 yX4_goesOn cX4_goesOn 4 none [.ref 69] (hp S N X Y) Q := by
  refine cn_of (own := RX4) (lo := [some (.ref 69), none, none, none]) 3 rfl (by decide +kernel) rfl (Nat.le_of_ble_eq_true rfl) ?_
  refine go_iconstN (n := 0) (q := 1) dX4_goesOn_0 rfl ?_
  refine go_istoren1 (q := 2) dX4_goesOn_1 rfl (by decide) rfl ?_
  refine r_goesOn_2 hw (fun X1 g => ?_) 15 0 X (by omega) (by omega) Xc.rf (fun d hd => absurd hd (Nat.not_lt_zero d))
  exact r_goesOn_227 hw hl hm g hO

set_option maxHeartbeats 4000000 in
set_option maxRecDepth 100000 in
theorem r_goesOnMany_2 {S : St} {N : Nat → Nat → Int64} {X : St} {Y : Nat → Int64} {Q : Option Value → AH → Prop} {n : Nat} (hw : WF (X 0)) (hl : WL (X 0)) (hn : n < 2 ^ 31) (hm : X 0 13 2 + n ≤ 10000) (hO : ∀ X', Xc X X' (monN (X 0) n) → Q none (hp S N X' Y)) : ∀ (fu : Nat) (k : Nat) (X1 : St), n - k < fu → (k ≤ n) → (Xc X X1 (monN (X 0) k)) → Go 9 RX4 cX4_goesOnMany 3 none 2 [some (.ref 69), some (.int (nI n)), some (.int (nI k))] [] (hp S N X1 Y) Q := by
  intro fu
  induction fu with
  | zero => intro k X1 hfu; exact absurd hfu (Nat.not_lt_zero _)
  | succ fu ih =>
    intro k X1 hfu hk g
    have h2 := wf_monN hw (n := k) (by omega)
    have hw1 : WF (X1 0) := by rw [g.1]; exact h2.1
    have hl1 : WL (X1 0) := by rw [g.1]; exact wl_monN hl k
    refine go_iloadn2 (q := 3) dX4_goesOnMany_2 rfl ?_
    refine go_iloadn1 (q := 4) dX4_goesOnMany_3 rfl ?_
    refine go_icmp_geN (tgt := 17) (q := 7) dX4_goesOnMany_4 (by decide) rfl (by omega) (by omega) (fun h1 => ?_) (fun h1 => ?_)
    · skip
      exact go_ret0 dX4_goesOnMany_17 rfl (hO _ (g.to (by rw [show k = n by omega])))
    · skip
      refine go_aloadn0 (q := 8) dX4_goesOnMany_7 rfl ?_
      refine go_ix0 (q := 11) dX4_goesOnMany_8 lk_X4_146 (by decide) (by decide) (Nat.le_of_ble_eq_true rfl) rfl (r_goesOn hw1 hl1 (by rw [g.1, h2.2]; omega) (fun X2 g2 => ?_))
      rw [g.1] at g2
      refine go_iincN2 (n := 1) (q := 14) dX4_goesOnMany_11 rfl (by decide) rfl ?_
      refine go_goto (tgt := 2) dX4_goesOnMany_14 (by decide) ?_
      exact ih (k + 1) X2 (by omega) (by omega) (g.tr g2)

set_option maxHeartbeats 4000000 in
set_option maxRecDepth 100000 in
theorem r_goesOnMany {S : St} {N : Nat → Nat → Int64} {X : St} {Y : Nat → Int64} {Q : Option Value → AH → Prop} {n : Nat} (hw : WF (X 0)) (hl : WL (X 0)) (hn : n < 2 ^ 31) (hm : X 0 13 2 + n ≤ 10000) (hO : ∀ X', Xc X X' (monN (X 0) n) → Q none (hp S N X' Y)) : Cn 9 yX4_goesOnMany cX4_goesOnMany 3 none [.ref 69, .int (nI n)] (hp S N X Y) Q := by
  refine cn_of (own := RX4) (lo := [some (.ref 69), some (.int (nI n)), none]) 1 rfl (by decide +kernel) rfl (Nat.le_of_ble_eq_true rfl) ?_
  refine go_iconstN (n := 0) (q := 1) dX4_goesOnMany_0 rfl ?_
  refine go_istoren2 (q := 2) dX4_goesOnMany_1 rfl (by decide) rfl ?_
  exact r_goesOnMany_2 hw hl hn hm hO (n + 1) 0 X (by omega) (by omega) Xc.rf

set_option maxHeartbeats 4000000 in
set_option maxRecDepth 100000 in
theorem r_months {S : St} {N : Nat → Nat → Int64} {X : St} {Y : Nat → Int64} {Q : Option Value → AH → Prop} {z : Int32} (hw : WF (X 0)) (hl : WL (X 0)) (hB : ¬ rg z 1 120 → ∀ X', Xf X X' 0 → Q (some (.int (-1000000001))) (hp S N X' Y)) (hS : ∀ n, 1 ≤ n → n ≤ 120 → z = nI n → 9999 < X 0 13 2 + n → ∀ X', Xf X X' 4 → Q (some (.int (-1000000005))) (hp S N X' Y)) (hO : ∀ n, 1 ≤ n → n ≤ 120 → z = nI n → ¬ 9999 < X 0 13 2 + n → ∀ X', Xp X X' (monN (X 0) n) → Q (some (.int (nI (many (monN (X 0) n) 1) - nI (many (X 0) 1)))) (hp S N X' Y)) : Cn 10 yX4_months cX4_months 3 (some .int) [.ref 69, .int z] (hp S N X Y) Q := by
  refine cn_of (own := RX4) (lo := [some (.ref 69), some (.int z), none]) 1 rfl (by decide +kernel) rfl (Nat.le_of_ble_eq_true rfl) ?_
  refine go_iloadn1 (q := 1) dX4_months_0 rfl ?_
  refine go_i2l (q := 2) dX4_months_1 rfl ?_
  refine go_lconst (q := 3) dX4_months_2 rfl ?_
  refine go_ldc2 (q := 6) dX4_months_3 ko_X4_137 rfl ?_
  refine go_is3_ (q := 9) dX4_months_6 lk_X4_49 (by decide) (by decide) (Nat.le_of_ble_eq_true rfl) rfl (r_isIn (l := 1) (m := 120) (by decide) (by decide) ?_)
  refine go_ifneB (tgt := 19) (q := 12) dX4_months_9 (by decide) rfl (fun h1 => ?_) (fun h1 => ?_)
  · skip
    obtain ⟨n, hn, rfl, hn1, -⟩ := rg_nat (n := 120) h1 (by omega) (by omega)
    refine go_aloadn0 (q := 20) dX4_months_19 rfl ?_
    refine go_iloadn1 (q := 21) dX4_months_20 rfl ?_
    refine go_ix1 (q := 24) dX4_months_21 lk_X4_139 (by decide) (by decide) (Nat.le_of_ble_eq_true rfl) rfl (r_isFar hw (by omega) ?_)
    refine go_ifeqB (tgt := 34) (q := 27) dX4_months_24 (by decide) rfl (fun h2 => ?_) (fun h2 => ?_)
    · skip
      refine go_aloadn0 (q := 35) dX4_months_34 rfl ?_
      refine go_iconstN (n := 1) (q := 36) dX4_months_35 rfl ?_
      refine go_ix1 (q := 39) dX4_months_36 lk_X4_149 (by decide) (by decide) (Nat.le_of_ble_eq_true rfl) rfl (r_manyThat hw (by decide) ?_)
      refine go_istoren2 (q := 40) dX4_months_39 rfl (by decide) rfl ?_
      refine go_aloadn0 (q := 41) dX4_months_40 rfl ?_
      refine go_iloadn1 (q := 42) dX4_months_41 rfl ?_
      refine go_ix1 (q := 45) dX4_months_42 lk_X4_152 (by decide) (by decide) (Nat.le_of_ble_eq_true rfl) rfl (r_goesOnMany hw hl (by omega) (by omega) (fun X1 g1 => ?_))
      have hw1 : WF (X1 0) := by rw [g1.1]; exact (wf_monN hw (n := n) (by omega)).1
      refine go_aloadn0 (q := 46) dX4_months_45 rfl ?_
      refine go_iconstN (n := 1) (q := 47) dX4_months_46 rfl ?_
      refine go_ix1 (q := 50) dX4_months_47 lk_X4_149 (by decide) (by decide) (Nat.le_of_ble_eq_true rfl) rfl (r_manyThat hw1 (by decide) ?_)
      rw [g1.1]
      refine go_iloadn2 (q := 51) dX4_months_50 rfl ?_
      refine go_isub (q := 52) dX4_months_51 rfl ?_
      exact go_iret dX4_months_52 rfl (hO n (by omega) hn rfl h2 _ g1.p)
    · skip
      refine go_aloadn0 (q := 28) dX4_months_27 rfl ?_
      refine go_ldc (q := 30) dX4_months_28 ko_X4_119 rfl ?_
      refine go_ix1 (q := 33) dX4_months_30 lk_X4_57 (by decide) (by decide) (Nat.le_of_ble_eq_true rfl) rfl (r_finds (p := 4) (by decide) (by decide) ?_)
      exact go_iret dX4_months_33 rfl (hS n (by omega) hn rfl h2 _ (Xf.rf 4))
  · skip
    refine go_aloadn0 (q := 13) dX4_months_12 rfl ?_
    refine go_ldc (q := 15) dX4_months_13 ko_X4_42 rfl ?_
    refine go_ix1 (q := 18) dX4_months_15 lk_X4_57 (by decide) (by decide) (Nat.le_of_ble_eq_true rfl) rfl (r_finds (p := 0) (by decide) (by decide) ?_)
    exact go_iret dX4_months_18 rfl (hB h1 _ (Xf.rf 0))

set_option maxHeartbeats 4000000 in
set_option maxRecDepth 100000 in
theorem r_now {S : St} {N : Nat → Nat → Int64} {X : St} {Y : Nat → Int64} {Q : Option Value → AH → Prop} {w : Int32} (hw : WF (X 0)) (hB : ¬ rg w 0 5 → ∀ X', Xf X X' 0 → Q (some (.int (-1000000001))) (hp S N X' Y)) (hO : ∀ j, j ≤ 5 → w = nI j → Q (some (.int (nI (nowV (X 0) j)))) (hp S N X Y)) : Cn 4 yX4_now cX4_now 2 (some .int) [.ref 69, .int w] (hp S N X Y) Q := by
  refine cn_of (own := RX4) (lo := [some (.ref 69), some (.int w)]) 0 rfl (by decide +kernel) rfl (Nat.le_of_ble_eq_true rfl) ?_
  refine go_iloadn1 (q := 1) dX4_now_0 rfl ?_
  rcases sw_5 w with z | rfl | rfl | rfl | rfl | rfl | rfl
  · skip
    refine go_tableOut (tgt := 77) dX4_now_1 (by unfold rg at z; omega) (by decide) ?_
    refine go_aloadn0 (q := 78) dX4_now_77 rfl ?_
    refine go_ldc (q := 80) dX4_now_78 ko_X4_42 rfl ?_
    refine go_ix1 (q := 83) dX4_now_80 lk_X4_57 (by decide) (by decide) (Nat.le_of_ble_eq_true rfl) rfl (r_finds (p := 0) (by decide) (by decide) ?_)
    exact go_iret dX4_now_83 rfl (hB z _ (Xf.rf 0))
  · skip
    refine go_tableIn (off := 39) (tgt := 40) dX4_now_1 (by decide) (by decide) (by decide) (by decide) ?_
    refine go_aloadn0 (q := 41) dX4_now_40 rfl ?_
    refine go_xg (q := 44) dX4_now_41 fl_X4_7 rfl rfl ?_
    refine go_iconstN (n := 2) (q := 45) dX4_now_44 rfl ?_
    refine go_rld (q := 46) dX4_now_45 (rr_13 (f := 2) (by decide)) rfl ?_
    exact go_iret dX4_now_46 rfl (hO 0 (by decide) rfl)
  · skip
    refine go_tableIn (off := 46) (tgt := 47) dX4_now_1 (by decide) (by decide) (by decide) (by decide) ?_
    refine go_aloadn0 (q := 48) dX4_now_47 rfl ?_
    refine go_ix0 (q := 51) dX4_now_48 lk_X4_76 (by decide) (by decide) (Nat.le_of_ble_eq_true rfl) rfl (r_season hw ?_)
    exact go_iret dX4_now_51 rfl (hO 1 (by decide) rfl)
  · skip
    refine go_tableIn (off := 51) (tgt := 52) dX4_now_1 (by decide) (by decide) (by decide) (by decide) ?_
    refine go_aloadn0 (q := 53) dX4_now_52 rfl ?_
    refine go_xg (q := 56) dX4_now_53 fl_X4_7 rfl rfl ?_
    refine go_iconstN (n := 3) (q := 57) dX4_now_56 rfl ?_
    refine go_rld (q := 58) dX4_now_57 (rr_13 (f := 3) (by decide)) rfl ?_
    exact go_iret dX4_now_58 rfl (hO 2 (by decide) rfl)
  · skip
    refine go_tableIn (off := 58) (tgt := 59) dX4_now_1 (by decide) (by decide) (by decide) (by decide) ?_
    refine go_aloadn0 (q := 60) dX4_now_59 rfl ?_
    refine go_iconstN (n := 0) (q := 61) dX4_now_60 rfl ?_
    refine go_ix1 (q := 64) dX4_now_61 lk_X4_149 (by decide) (by decide) (Nat.le_of_ble_eq_true rfl) rfl (r_manyThat hw (by decide) ?_)
    exact go_iret dX4_now_64 rfl (hO 3 (by decide) rfl)
  · skip
    refine go_tableIn (off := 64) (tgt := 65) dX4_now_1 (by decide) (by decide) (by decide) (by decide) ?_
    refine go_aloadn0 (q := 66) dX4_now_65 rfl ?_
    refine go_iconstN (n := 1) (q := 67) dX4_now_66 rfl ?_
    refine go_ix1 (q := 70) dX4_now_67 lk_X4_149 (by decide) (by decide) (Nat.le_of_ble_eq_true rfl) rfl (r_manyThat hw (by decide) ?_)
    exact go_iret dX4_now_70 rfl (hO 4 (by decide) rfl)
  · skip
    refine go_tableIn (off := 70) (tgt := 71) dX4_now_1 (by decide) (by decide) (by decide) (by decide) ?_
    refine go_aloadn0 (q := 72) dX4_now_71 rfl ?_
    refine go_iconstN (n := 2) (q := 73) dX4_now_72 rfl ?_
    refine go_ix1 (q := 76) dX4_now_73 lk_X4_149 (by decide) (by decide) (Nat.le_of_ble_eq_true rfl) rfl (r_manyThat hw (by decide) ?_)
    exact go_iret dX4_now_76 rfl (hO 5 (by decide) rfl)
