theorem cl0_b {b : Nat} (h : cl 0 b = true) : b = 32 := by simpa [cl] using h
theorem cl0_m {b : Nat} (h : b = 32) : cl 0 b = true := by simpa [cl] using h
theorem bt_59 {B : Nat → Nat} {L s : Nat} (hB : ∀ i, i < L → B i ≤ 255) (h1 : s < L) (h4 : bt B L s = nI 59) : B s = 59 := by
  rw [bt_y h1] at h4
  exact (nI_eq (by have := hB s h1; omega) (by decide)).mp h4
theorem tk5_s2 (T : Mk) : u2 T 1 2 (T 1 3) = tk5 T (T 1 1) (T 1 3) (T 1 3) (T 1 4) := by
  have h := tk5_u2 T (T 1 1) (T 1 2) (T 1 3) (T 1 4) (T 1 3)
  rw [tk5_id] at h
  exact h
section ZR
variable {d : Nat} {own : String} {cc : ByteArray} {nL : Nat} {ret : Option FieldType} {pc : Nat} {lo : List (Option Value)} {h : AH} {Q : Option Value → AH → Prop}
theorem go_zretT {P : Prop} [Decidable P] (hd : decode cc pc = .ok (.ireturn, 1)) (hr : ret = some .boolean) (hp : P) (kk : Q (some (.int (bI P))) h) : Go d own cc nL ret pc lo [.int (nI 1)] h Q := go_zret hd hr (by decide) (by rw [bI_t hp] at kk; exact kk)
theorem go_zretF {P : Prop} [Decidable P] (hd : decode cc pc = .ok (.ireturn, 1)) (hr : ret = some .boolean) (hp : ¬ P) (kk : Q (some (.int (bI P))) h) : Go d own cc nL ret pc lo [.int (nI 0)] h Q := go_zret hd hr (by decide) (by rw [bI_f hp] at kk; exact kk)
end ZR

set_option maxHeartbeats 4000000 in
set_option maxRecDepth 100000 in
theorem c_byteAt {S : St} {N : Nat → Nat → Int64} {X : St} {Y : Nat → Int64} {Q : Option Value → AH → Prop} {i : Nat} (hi : i < 2 ^ 31) (hL : S 4 1 0 ≤ 120) (hQ : Q (some (.int (bt (S 4 0) (S 4 1 0) i))) (hp S N X Y)) : Cn 0 yX2_byteAt cX2_byteAt 2 (some .int) [.ref 57, .int (nI i)] (hp S N X Y) Q := by
  refine cn_of (own := RX2) (lo := [some (.ref 57), some (.int (nI i))]) 0 rfl (by decide +kernel) rfl (Nat.le_of_ble_eq_true rfl) ?_
  refine go_iloadn1 (q := 1) dX2_byteAt_0 rfl ?_
  refine go_if_ltN (tgt := 27) (q := 4) dX2_byteAt_1 (by decide) rfl (by omega) (fun h1 => ?_) (fun h1 => ?_)
  · skip
    exact h1.elim
  · skip
    refine go_iloadn1 (q := 5) dX2_byteAt_4 rfl ?_
    refine go_aloadn0 (q := 6) dX2_byteAt_5 rfl ?_
    refine go_tg (q := 9) dX2_byteAt_6 fl_X2_15 rfl rfl ?_
    refine go_icmp_geN (tgt := 27) (q := 12) dX2_byteAt_9 (by decide) rfl (by omega) (by omega) (fun h2 => ?_) (fun h2 => ?_)
    · skip
      refine go_iconstV (v := -1) (q := 28) dX2_byteAt_27 (by decide) rfl ?_
      exact go_iretE dX2_byteAt_28 rfl (bt_n (by omega)) hQ
    · skip
      refine go_iloadn1 (q := 13) dX2_byteAt_12 rfl ?_
      refine go_bipushN (v := 120) (q := 15) dX2_byteAt_13 (by decide) rfl ?_
      refine go_icmp_geN (tgt := 27) (q := 18) dX2_byteAt_15 (by decide) rfl (by omega) (by omega) (fun h3 => ?_) (fun h3 => ?_)
      · skip
        exact absurd h3 (by omega)
      · skip
        refine go_aloadn0 (q := 19) dX2_byteAt_18 rfl ?_
        refine go_tg (q := 22) dX2_byteAt_19 fl_X2_9 rfl rfl ?_
        refine go_iloadn1 (q := 23) dX2_byteAt_22 rfl ?_
        refine go_tld (q := 24) dX2_byteAt_23 (by omega) rfl ?_
        refine go_goto (tgt := 28) dX2_byteAt_24 (by decide) ?_
        exact go_iretE dX2_byteAt_28 rfl (bt_y (by omega)) hQ

set_option maxHeartbeats 4000000 in
set_option maxRecDepth 100000 in
theorem c_isLetter {S : St} {N : Nat → Nat → Int64} {X : St} {Y : Nat → Int64} {Q : Option Value → AH → Prop} {x : Int32} (hQ : Q (some (.int (bI (¬ x < nI 97 ∧ ¬ nI 122 < x)))) (hp S N X Y)) : Cn 0 yX2_isLetter cX2_isLetter 1 (some .boolean) [.int x] (hp S N X Y) Q := by
  refine cn_of (own := RX2) (lo := [some (.int x)]) 0 rfl (by decide +kernel) rfl (Nat.le_of_ble_eq_true rfl) ?_
  refine go_iloadn0 (q := 1) dX2_isLetter_0 rfl ?_
  refine go_bipushN (v := 97) (q := 3) dX2_isLetter_1 (by decide) rfl ?_
  refine go_icmp_lt (tgt := 16) (q := 6) dX2_isLetter_3 (by decide) rfl (fun h1 => ?_) (fun h1 => ?_)
  · skip
    refine go_iconstN (n := 0) (q := 17) dX2_isLetter_16 rfl ?_
    exact go_zretF dX2_isLetter_17 rfl (fun z => absurd h1 z.1) hQ
  · skip
    refine go_iloadn0 (q := 7) dX2_isLetter_6 rfl ?_
    refine go_bipushN (v := 122) (q := 9) dX2_isLetter_7 (by decide) rfl ?_
    refine go_icmp_gt (tgt := 16) (q := 12) dX2_isLetter_9 (by decide) rfl (fun h2 => ?_) (fun h2 => ?_)
    · skip
      refine go_iconstN (n := 0) (q := 17) dX2_isLetter_16 rfl ?_
      exact go_zretF dX2_isLetter_17 rfl (fun z => absurd h2 z.2) hQ
    · skip
      refine go_iconstN (n := 1) (q := 13) dX2_isLetter_12 rfl ?_
      refine go_goto (tgt := 17) dX2_isLetter_13 (by decide) ?_
      exact go_zretT dX2_isLetter_17 rfl ⟨h1, h2⟩ hQ

set_option maxHeartbeats 4000000 in
set_option maxRecDepth 100000 in
theorem c_isDigit {S : St} {N : Nat → Nat → Int64} {X : St} {Y : Nat → Int64} {Q : Option Value → AH → Prop} {x : Int32} (hQ : Q (some (.int (bI (¬ x < nI 48 ∧ ¬ nI 57 < x)))) (hp S N X Y)) : Cn 0 yX2_isDigit cX2_isDigit 1 (some .boolean) [.int x] (hp S N X Y) Q := by
  refine cn_of (own := RX2) (lo := [some (.int x)]) 0 rfl (by decide +kernel) rfl (Nat.le_of_ble_eq_true rfl) ?_
  refine go_iloadn0 (q := 1) dX2_isDigit_0 rfl ?_
  refine go_bipushN (v := 48) (q := 3) dX2_isDigit_1 (by decide) rfl ?_
  refine go_icmp_lt (tgt := 16) (q := 6) dX2_isDigit_3 (by decide) rfl (fun h1 => ?_) (fun h1 => ?_)
  · skip
    refine go_iconstN (n := 0) (q := 17) dX2_isDigit_16 rfl ?_
    exact go_zretF dX2_isDigit_17 rfl (fun z => absurd h1 z.1) hQ
  · skip
    refine go_iloadn0 (q := 7) dX2_isDigit_6 rfl ?_
    refine go_bipushN (v := 57) (q := 9) dX2_isDigit_7 (by decide) rfl ?_
    refine go_icmp_gt (tgt := 16) (q := 12) dX2_isDigit_9 (by decide) rfl (fun h2 => ?_) (fun h2 => ?_)
    · skip
      refine go_iconstN (n := 0) (q := 17) dX2_isDigit_16 rfl ?_
      exact go_zretF dX2_isDigit_17 rfl (fun z => absurd h2 z.2) hQ
    · skip
      refine go_iconstN (n := 1) (q := 13) dX2_isDigit_12 rfl ?_
      refine go_goto (tgt := 17) dX2_isDigit_13 (by decide) ?_
      exact go_zretT dX2_isDigit_17 rfl ⟨h1, h2⟩ hQ

set_option maxHeartbeats 4000000 in
set_option maxRecDepth 100000 in
theorem c_endWord_0 {S : St} {N : Nat → Nat → Int64} {X : St} {Y : Nat → Int64} {Q : Option Value → AH → Prop} {T : Mk} {k s e0 a : Nat} (hT : tpB T) (hO : ∀ S', Ch S S' 4 (tk5 T k s (sk (T 0) (T 1 0) 1 e0) a) → Q none (hp S' N X Y)) : ∀ (fu : Nat) (e : Nat) (S1 : St), T 1 0 - e < fu → (e ≤ T 1 0) → (Ch S S1 4 (tk5 T k s e a)) → (sk (T 0) (T 1 0) 1 e = sk (T 0) (T 1 0) 1 e0) → Go 3 RX2 cX2_endWord 1 none 0 [some (.ref 57)] [] (hp S1 N X Y) Q := by
  intro fu
  induction fu with
  | zero => intro e S1 hfu; exact absurd hfu (Nat.not_lt_zero _)
  | succ fu ih =>
    intro e S1 hfu he g hs
    obtain ⟨x0, xL, x1, x2, x3, x4⟩ := g.x
    have hB : ∀ i, i < T 1 0 → T 0 i ≤ 255 := hT.2
    have hL := hT.1
    refine go_aloadn0 (q := 1) dX2_endWord_0 rfl ?_
    refine go_tg (q := 4) dX2_endWord_1 fl_X2_19 rfl rfl ?_
    rw [x3]
    refine go_aloadn0 (q := 5) dX2_endWord_4 rfl ?_
    refine go_tg (q := 8) dX2_endWord_5 fl_X2_15 rfl rfl ?_
    rw [xL]
    refine go_icmp_geN (tgt := 38) (q := 11) dX2_endWord_8 (by decide) rfl (by omega) (by omega) (fun h1 => ?_) (fun h1 => ?_)
    · skip
      exact go_ret0 dX2_endWord_38 rfl (hO _ (by rw [← hs, sk_n (fun z => by omega)]; exact g))
    · skip
      refine go_aloadn0 (q := 12) dX2_endWord_11 rfl ?_
      refine go_aloadn0 (q := 13) dX2_endWord_12 rfl ?_
      refine go_tg (q := 16) dX2_endWord_13 fl_X2_19 rfl rfl ?_
      rw [x3]
      refine go_it1 (q := 19) dX2_endWord_16 lk_X2_125 (by decide) (by decide) (Nat.le_of_ble_eq_true rfl) rfl (c_byteAt (by omega) (by omega) ?_)
      rw [x0, xL]
      refine go_is1_ (q := 22) dX2_endWord_19 lk_X2_133 (by decide) (by decide) (Nat.le_of_ble_eq_true rfl) rfl (c_isLetter ?_)
      refine go_ifeqB (tgt := 38) (q := 25) dX2_endWord_22 (by decide) rfl (fun h2 => ?_) (fun h2 => ?_)
      · skip
        exact go_ret0 dX2_endWord_38 rfl (hO _ (by rw [← hs, sk_n (fun z => h2 ((bt_let hB).mpr z))]; exact g))
      · skip
        refine go_aloadn0 (q := 26) dX2_endWord_25 rfl ?_
        refine go_dup (q := 27) dX2_endWord_26 rfl rfl ?_
        refine go_tg (q := 30) dX2_endWord_27 fl_X2_19 rfl rfl ?_
        rw [x3]
        refine go_iconstN (n := 1) (q := 31) dX2_endWord_30 rfl ?_
        refine go_iaddN (q := 32) dX2_endWord_31 rfl ?_
        refine go_tpf (f := 3) (q := 35) dX2_endWord_32 fp_X2_19 (by decide) rfl ?_
        refine go_goto (tgt := 0) dX2_endWord_35 (by decide) ?_
        exact ih (e + 1) _ (by omega) (by omega) ((g.u 1 3 (e + 1)).to (tk5_u3 _ _ _ _ _ _)) (by rw [← sk_y (by omega) ((bt_let hB).mp h2).2]; exact hs)

set_option maxHeartbeats 4000000 in
set_option maxRecDepth 100000 in
theorem c_endWord {S : St} {N : Nat → Nat → Int64} {X : St} {Y : Nat → Int64} {Q : Option Value → AH → Prop} {T : Mk} {k s e0 a : Nat} (hT : tpB T) (hO : ∀ S', Ch S S' 4 (tk5 T k s (sk (T 0) (T 1 0) 1 e0) a) → Q none (hp S' N X Y)) (he : e0 ≤ T 1 0) (g : S 4 = tk5 T k s e0 a) : Cn 3 yX2_endWord cX2_endWord 1 none [.ref 57] (hp S N X Y) Q := by
  refine cn_of (own := RX2) (lo := [some (.ref 57)]) 0 rfl (by decide +kernel) rfl (Nat.le_of_ble_eq_true rfl) ?_
  exact c_endWord_0 hT hO (T 1 0 - e0 + 1) e0 S (by omega) he ⟨g, fun _ _ _ => rfl⟩ rfl

set_option maxHeartbeats 4000000 in
set_option maxRecDepth 100000 in
theorem c_endNumber_15 {S : St} {N : Nat → Nat → Int64} {X : St} {Y : Nat → Int64} {Q : Option Value → AH → Prop} {T : Mk} {k s e0 a0 : Nat} (hT : tpB T) (hO : ∀ S', Ch S S' 4 (tk5 T k s (sk (T 0) (T 1 0) 2 e0) (nm (T 0) (T 1 0) e0 (T 0 s - 48))) → Q none (hp S' N X Y)) : ∀ (fu : Nat) (e a : Nat) (S1 : St), T 1 0 - e < fu → (e ≤ T 1 0) → (a ≤ 10000) → (Ch S S1 4 (tk5 T k s e a)) → (sk (T 0) (T 1 0) 2 e = sk (T 0) (T 1 0) 2 e0) → (nm (T 0) (T 1 0) e a = nm (T 0) (T 1 0) e0 (T 0 s - 48)) → Go 3 RX2 cX2_endNumber 1 none 15 [some (.ref 57)] [] (hp S1 N X Y) Q := by
  intro fu
  induction fu with
  | zero => intro e a S1 hfu; exact absurd hfu (Nat.not_lt_zero _)
  | succ fu ih =>
    intro e a S1 hfu he ha g hs hm
    obtain ⟨x0, xL, x1, x2, x3, x4⟩ := g.x
    have hB : ∀ i, i < T 1 0 → T 0 i ≤ 255 := hT.2
    have hL := hT.1
    refine go_aloadn0 (q := 16) dX2_endNumber_15 rfl ?_
    refine go_tg (q := 19) dX2_endNumber_16 fl_X2_19 rfl rfl ?_
    rw [x3]
    refine go_aloadn0 (q := 20) dX2_endNumber_19 rfl ?_
    refine go_tg (q := 23) dX2_endNumber_20 fl_X2_15 rfl rfl ?_
    rw [xL]
    refine go_icmp_geN (tgt := 82) (q := 26) dX2_endNumber_23 (by decide) rfl (by omega) (by omega) (fun h1 => ?_) (fun h1 => ?_)
    · skip
      exact go_ret0 dX2_endNumber_82 rfl (hO _ (by rw [← hs, ← hm, sk_n (fun z => by omega), nm_n (fun z => by omega)]; exact g))
    · skip
      refine go_aloadn0 (q := 27) dX2_endNumber_26 rfl ?_
      refine go_aloadn0 (q := 28) dX2_endNumber_27 rfl ?_
      refine go_tg (q := 31) dX2_endNumber_28 fl_X2_19 rfl rfl ?_
      rw [x3]
      refine go_it1 (q := 34) dX2_endNumber_31 lk_X2_125 (by decide) (by decide) (Nat.le_of_ble_eq_true rfl) rfl (c_byteAt (by omega) (by omega) ?_)
      rw [x0, xL]
      refine go_is1_ (q := 37) dX2_endNumber_34 lk_X2_140 (by decide) (by decide) (Nat.le_of_ble_eq_true rfl) rfl (c_isDigit ?_)
      refine go_ifeqB (tgt := 82) (q := 40) dX2_endNumber_37 (by decide) rfl (fun h2 => ?_) (fun h2 => ?_)
      · skip
        exact go_ret0 dX2_endNumber_82 rfl (hO _ (by rw [← hs, ← hm, sk_n (fun z => h2 ((bt_dig hB).mpr z)), nm_n (fun z => h2 ((bt_dig hB).mpr z))]; exact g))
      · skip
        refine go_aloadn0 (q := 41) dX2_endNumber_40 rfl ?_
        refine go_sipushN (v := 10000) (q := 44) dX2_endNumber_41 (by decide) rfl ?_
        refine go_bipushN (v := 10) (q := 46) dX2_endNumber_44 (by decide) rfl ?_
        refine go_aloadn0 (q := 47) dX2_endNumber_46 rfl ?_
        refine go_tg (q := 50) dX2_endNumber_47 fl_X2_97 rfl rfl ?_
        rw [x4]
        refine go_imulN (q := 51) dX2_endNumber_50 rfl ?_
        refine go_aloadn0 (q := 52) dX2_endNumber_51 rfl ?_
        refine go_aloadn0 (q := 53) dX2_endNumber_52 rfl ?_
        refine go_tg (q := 56) dX2_endNumber_53 fl_X2_19 rfl rfl ?_
        rw [x3]
        refine go_it1 (q := 59) dX2_endNumber_56 lk_X2_125 (by decide) (by decide) (Nat.le_of_ble_eq_true rfl) rfl (c_byteAt (by omega) (by omega) ?_)
        rw [x0, xL]
        rw [bt_y (by omega)]
        have hd := cl2_b ((bt_dig hB).mp h2).2
        refine go_iaddN (q := 60) dX2_endNumber_59 rfl ?_
        refine go_bipushN (v := 48) (q := 62) dX2_endNumber_60 (by decide) rfl ?_
        refine go_isubN (q := 63) dX2_endNumber_62 (by omega) rfl ?_
        refine go_is2_ (q := 66) dX2_endNumber_63 lk_X2_146 (by decide) (by decide) (Nat.le_of_ble_eq_true rfl) rfl (c_min ?_)
        refine go_st (st' := [.int (nI (min 10000 (10 * a + T 0 e - 48))), .ref 57]) (by rw [minN (by decide) (by omega)]) ?_
        refine go_tpf (f := 4) (q := 69) dX2_endNumber_66 fp_X2_97 (by decide) rfl ?_
        refine go_aloadn0 (q := 70) dX2_endNumber_69 rfl ?_
        refine go_dup (q := 71) dX2_endNumber_70 rfl rfl ?_
        refine go_tg (q := 74) dX2_endNumber_71 fl_X2_19 rfl rfl ?_
        rw [show u3 S1 4 1 4 (min 10000 (10 * a + T 0 e - 48)) 4 1 3 = e from x3]
        refine go_iconstN (n := 1) (q := 75) dX2_endNumber_74 rfl ?_
        refine go_iaddN (q := 76) dX2_endNumber_75 rfl ?_
        refine go_tpf (f := 3) (q := 79) dX2_endNumber_76 fp_X2_19 (by decide) rfl ?_
        refine go_goto (tgt := 15) dX2_endNumber_79 (by decide) ?_
        exact ih (e + 1) (min 10000 (10 * a + T 0 e - 48)) _ (by omega) (by omega) (by omega) (((g.u 1 4 _).u 1 3 (e + 1)).to (by rw [tk5_u4, tk5_u3])) (by rw [← sk_y (by omega) ((bt_dig hB).mp h2).2]; exact hs) (by rw [← nm_y (by omega) ((bt_dig hB).mp h2).2]; exact hm)

set_option maxHeartbeats 4000000 in
set_option maxRecDepth 100000 in
theorem c_endNumber {S : St} {N : Nat → Nat → Int64} {X : St} {Y : Nat → Int64} {Q : Option Value → AH → Prop} {T : Mk} {k s e0 a0 : Nat} (hT : tpB T) (hO : ∀ S', Ch S S' 4 (tk5 T k s (sk (T 0) (T 1 0) 2 e0) (nm (T 0) (T 1 0) e0 (T 0 s - 48))) → Q none (hp S' N X Y)) (he : e0 ≤ T 1 0) (hsL : s < T 1 0) (hd : 48 ≤ T 0 s ∧ T 0 s ≤ 57) (g4 : S 4 = tk5 T k s e0 a0) : Cn 3 yX2_endNumber cX2_endNumber 1 none [.ref 57] (hp S N X Y) Q := by
  refine cn_of (own := RX2) (lo := [some (.ref 57)]) 0 rfl (by decide +kernel) rfl (Nat.le_of_ble_eq_true rfl) ?_
  have g : Ch S S 4 (tk5 T k s e0 a0) := ⟨g4, fun _ _ _ => rfl⟩
  obtain ⟨x0, xL, x1, x2, x3, x4⟩ := g.x
  have hL := hT.1
  refine go_aloadn0 (q := 1) dX2_endNumber_0 rfl ?_
  refine go_aloadn0 (q := 2) dX2_endNumber_1 rfl ?_
  refine go_aloadn0 (q := 3) dX2_endNumber_2 rfl ?_
  refine go_tg (q := 6) dX2_endNumber_3 fl_X2_29 rfl rfl ?_
  rw [x2]
  refine go_it1 (q := 9) dX2_endNumber_6 lk_X2_125 (by decide) (by decide) (Nat.le_of_ble_eq_true rfl) rfl (c_byteAt (by omega) (by omega) ?_)
  rw [x0, xL]
  rw [bt_y hsL]
  refine go_bipushN (v := 48) (q := 11) dX2_endNumber_9 (by decide) rfl ?_
  refine go_isubN (q := 12) dX2_endNumber_11 (by omega) rfl ?_
  refine go_tpf (f := 4) (q := 15) dX2_endNumber_12 fp_X2_97 (by decide) rfl ?_
  exact c_endNumber_15 (a0 := a0) hT hO (T 1 0 - e0 + 1) e0 (T 0 s - 48) _ (by omega) he (by omega) ((g.u 1 4 _).to (tk5_u4 _ _ _ _ _ _)) rfl rfl

set_option maxHeartbeats 4000000 in
set_option maxRecDepth 100000 in
theorem c_goAhead_45 {S : St} {N : Nat → Nat → Int64} {X : St} {Y : Nat → Int64} {Q : Option Value → AH → Prop} {T : Mk} {k0 e0 a0 : Nat} (hT : tpB T) (hO : ∀ S', Ch S S' 4 (tkA T (sk (T 0) (T 1 0) 0 e0)) → Q none (hp S' N X Y)) {s : Nat} {S1 : St} (hs : s = sk (T 0) (T 1 0) 0 e0) (hsL : s ≤ T 1 0) (g : Ch S S1 4 (tk5 T k0 s e0 a0)) : Go 5 RX2 cX2_goAhead 2 none 45 [some (.ref 57), none] [] (hp S1 N X Y) Q := by
  obtain ⟨x0, xL, x1, x2, x3, x4⟩ := g.x
  have hB : ∀ i, i < T 1 0 → T 0 i ≤ 255 := hT.2
  have hL := hT.1
  refine go_aloadn0 (q := 46) dX2_goAhead_45 rfl ?_
  refine go_aloadn0 (q := 47) dX2_goAhead_46 rfl ?_
  refine go_tg (q := 50) dX2_goAhead_47 fl_X2_29 rfl rfl ?_
  rw [x2]
  refine go_iconstN (n := 1) (q := 51) dX2_goAhead_50 rfl ?_
  refine go_iaddN (q := 52) dX2_goAhead_51 rfl ?_
  refine go_tpf (f := 3) (q := 55) dX2_goAhead_52 fp_X2_19 (by decide) rfl ?_
  have g2 := (g.u 1 3 (s + 1)).to (tk5_u3 _ _ _ _ _ _)
  refine go_aloadn0 (q := 56) dX2_goAhead_55 rfl ?_
  refine go_iconstN (n := 0) (q := 57) dX2_goAhead_56 rfl ?_
  refine go_tpf (f := 4) (q := 60) dX2_goAhead_57 fp_X2_97 (by decide) rfl ?_
  have g3 := (g2.u 1 4 0).to (tk5_u4 _ _ _ _ _ _)
  generalize hS3 : u3 (u3 S1 4 1 3 (s + 1)) 4 1 4 0 = S3 at g3 ⊢
  obtain ⟨y0, yL, y1, y2, y3, y4⟩ := g3.x
  refine go_aloadn0 (q := 61) dX2_goAhead_60 rfl ?_
  refine go_aloadn0 (q := 62) dX2_goAhead_61 rfl ?_
  refine go_tg (q := 65) dX2_goAhead_62 fl_X2_29 rfl rfl ?_
  rw [y2]
  refine go_it1 (q := 68) dX2_goAhead_65 lk_X2_125 (by decide) (by decide) (Nat.le_of_ble_eq_true rfl) rfl (c_byteAt (by omega) (by omega) ?_)
  rw [y0, yL]
  refine go_istoren1 (q := 69) dX2_goAhead_68 rfl (by decide) rfl ?_
  refine go_aloadn0 (q := 70) dX2_goAhead_69 rfl ?_
  refine go_tg (q := 73) dX2_goAhead_70 fl_X2_29 rfl rfl ?_
  rw [y2]
  refine go_aloadn0 (q := 74) dX2_goAhead_73 rfl ?_
  refine go_tg (q := 77) dX2_goAhead_74 fl_X2_15 rfl rfl ?_
  rw [yL]
  refine go_icmp_ltN (tgt := 96) (q := 80) dX2_goAhead_77 (by decide) rfl (by omega) (by omega) (fun h1 => ?_) (fun h1 => ?_)
  · skip
    refine go_iloadn1 (q := 97) dX2_goAhead_96 rfl ?_
    refine go_is1_ (q := 100) dX2_goAhead_97 lk_X2_133 (by decide) (by decide) (Nat.le_of_ble_eq_true rfl) rfl (c_isLetter ?_)
    refine go_ifeqB (tgt := 115) (q := 103) dX2_goAhead_100 (by decide) rfl (fun h2 => ?_) (fun h2 => ?_)
    · skip
      refine go_iloadn1 (q := 116) dX2_goAhead_115 rfl ?_
      refine go_is1_ (q := 119) dX2_goAhead_116 lk_X2_140 (by decide) (by decide) (Nat.le_of_ble_eq_true rfl) rfl (c_isDigit ?_)
      refine go_ifeqB (tgt := 134) (q := 122) dX2_goAhead_119 (by decide) rfl (fun h3 => ?_) (fun h3 => ?_)
      · skip
        refine go_aloadn0 (q := 135) dX2_goAhead_134 rfl ?_
        refine go_iloadn1 (q := 136) dX2_goAhead_135 rfl ?_
        refine go_bipushN (v := 59) (q := 138) dX2_goAhead_136 (by decide) rfl ?_
        refine go_icmp_ne (tgt := 145) (q := 141) dX2_goAhead_138 (by decide) rfl (fun h4 => ?_) (fun h4 => ?_)
        · skip
          refine go_iconstN (n := 4) (q := 146) dX2_goAhead_145 rfl ?_
          refine go_tpf (f := 1) (q := 149) dX2_goAhead_146 fp_X2_32 (by decide) rfl ?_
          exact go_ret0 dX2_goAhead_149 rfl (hO _ (by rw [← hs]; unfold tkA kd en am; rw [if_neg (by omega), if_neg (fun z => h2 ((bt_let hB).mpr ⟨h1, z⟩)), if_neg (fun z => h3 ((bt_dig hB).mpr ⟨h1, z⟩)), if_neg (fun z => h4 (by rw [bt_y h1, z])), if_neg (by omega), if_neg (fun z => h2 ((bt_let hB).mpr ⟨h1, z⟩)), if_neg (fun z => h3 ((bt_dig hB).mpr ⟨h1, z⟩)), if_neg (by omega), if_neg (fun z => h2 ((bt_let hB).mpr ⟨h1, z⟩)), if_neg (fun z => h3 ((bt_dig hB).mpr ⟨h1, z⟩))]; exact (g3.u 1 1 4).to (tk5_u1 _ _ _ _ _ _)))
        · skip
          refine go_iconstN (n := 3) (q := 142) dX2_goAhead_141 rfl ?_
          refine go_goto (tgt := 146) dX2_goAhead_142 (by decide) ?_
          refine go_tpf (f := 1) (q := 149) dX2_goAhead_146 fp_X2_32 (by decide) rfl ?_
          exact go_ret0 dX2_goAhead_149 rfl (hO _ (by rw [← hs]; unfold tkA kd en am; rw [if_neg (by omega), if_neg (fun z => h2 ((bt_let hB).mpr ⟨h1, z⟩)), if_neg (fun z => h3 ((bt_dig hB).mpr ⟨h1, z⟩)), if_pos (bt_59 hB h1 h4), if_neg (by omega), if_neg (fun z => h2 ((bt_let hB).mpr ⟨h1, z⟩)), if_neg (fun z => h3 ((bt_dig hB).mpr ⟨h1, z⟩)), if_neg (by omega), if_neg (fun z => h2 ((bt_let hB).mpr ⟨h1, z⟩)), if_neg (fun z => h3 ((bt_dig hB).mpr ⟨h1, z⟩))]; exact (g3.u 1 1 3).to (tk5_u1 _ _ _ _ _ _)))
      · skip
        refine go_aloadn0 (q := 123) dX2_goAhead_122 rfl ?_
        refine go_iconstN (n := 2) (q := 124) dX2_goAhead_123 rfl ?_
        refine go_tpf (f := 1) (q := 127) dX2_goAhead_124 fp_X2_32 (by decide) rfl ?_
        have g4 := (g3.u 1 1 2).to (tk5_u1 _ _ _ _ _ _)
        have c2 := ((bt_dig hB).mp h3).2
        refine go_aloadn0 (q := 128) dX2_goAhead_127 rfl ?_
        refine go_it0 (q := 131) dX2_goAhead_128 lk_X2_143 (by decide) (by decide) (Nat.le_of_ble_eq_true rfl) rfl (c_endNumber (T := T) (k := 2) (s := s) (e0 := s + 1) (a0 := 0) hT (fun S4 g5 => ?_) (by omega) h1 (cl2_b c2) g4.1)
        refine go_goto (tgt := 149) dX2_goAhead_131 (by decide) ?_
        exact go_ret0 dX2_goAhead_149 rfl (hO _ (by rw [← hs]; unfold tkA kd en am; rw [if_neg (by omega), if_neg (fun z => h2 ((bt_let hB).mpr ⟨h1, z⟩)), if_pos c2, if_neg (by omega), if_neg (fun z => h2 ((bt_let hB).mpr ⟨h1, z⟩)), if_pos c2, if_neg (by omega), if_neg (fun z => h2 ((bt_let hB).mpr ⟨h1, z⟩)), if_pos c2]; exact g4.tr g5))
    · skip
      refine go_aloadn0 (q := 104) dX2_goAhead_103 rfl ?_
      refine go_iconstN (n := 1) (q := 105) dX2_goAhead_104 rfl ?_
      refine go_tpf (f := 1) (q := 108) dX2_goAhead_105 fp_X2_32 (by decide) rfl ?_
      have g4 := (g3.u 1 1 1).to (tk5_u1 _ _ _ _ _ _)
      have c1 := ((bt_let hB).mp h2).2
      refine go_aloadn0 (q := 109) dX2_goAhead_108 rfl ?_
      refine go_it0 (q := 112) dX2_goAhead_109 lk_X2_137 (by decide) (by decide) (Nat.le_of_ble_eq_true rfl) rfl (c_endWord (T := T) (k := 1) (s := s) (e0 := s + 1) (a := 0) hT (fun S4 g5 => ?_) (by omega) g4.1)
      refine go_goto (tgt := 149) dX2_goAhead_112 (by decide) ?_
      exact go_ret0 dX2_goAhead_149 rfl (hO _ (by rw [← hs]; unfold tkA kd en am; rw [if_neg (by omega), if_pos c1, if_neg (by omega), if_pos c1, if_neg (by omega), if_pos c1]; exact g4.tr g5))
  · skip
    refine go_aloadn0 (q := 81) dX2_goAhead_80 rfl ?_
    refine go_iconstN (n := 0) (q := 82) dX2_goAhead_81 rfl ?_
    refine go_tpf (f := 1) (q := 85) dX2_goAhead_82 fp_X2_32 (by decide) rfl ?_
    have g4 := (g3.u 1 1 0).to (tk5_u1 _ _ _ _ _ _)
    refine go_aloadn0 (q := 86) dX2_goAhead_85 rfl ?_
    refine go_aloadn0 (q := 87) dX2_goAhead_86 rfl ?_
    refine go_tg (q := 90) dX2_goAhead_87 fl_X2_29 rfl rfl ?_
    rw [show u3 S3 4 1 1 0 4 1 2 = s from y2]
    refine go_tpf (f := 3) (q := 93) dX2_goAhead_90 fp_X2_19 (by decide) rfl ?_
    refine go_goto (tgt := 149) dX2_goAhead_93 (by decide) ?_
    exact go_ret0 dX2_goAhead_149 rfl (hO _ (by rw [← hs]; unfold tkA kd en am; rw [if_pos (by omega), if_pos (by omega), if_pos (by omega)]; exact (g4.u 1 3 s).to (tk5_u3 _ _ _ _ _ _)))

set_option maxHeartbeats 4000000 in
set_option maxRecDepth 100000 in
theorem c_goAhead_8 {S : St} {N : Nat → Nat → Int64} {X : St} {Y : Nat → Int64} {Q : Option Value → AH → Prop} {T : Mk} {k0 e0 a0 : Nat} (hT : tpB T) (hO : ∀ S', Ch S S' 4 (tkA T (sk (T 0) (T 1 0) 0 e0)) → Q none (hp S' N X Y)) : ∀ (fu : Nat) (s : Nat) (S1 : St), T 1 0 - s < fu → (s ≤ T 1 0) → (Ch S S1 4 (tk5 T k0 s e0 a0)) → (sk (T 0) (T 1 0) 0 s = sk (T 0) (T 1 0) 0 e0) → Go 5 RX2 cX2_goAhead 2 none 8 [some (.ref 57), none] [] (hp S1 N X Y) Q := by
  intro fu
  induction fu with
  | zero => intro s S1 hfu; exact absurd hfu (Nat.not_lt_zero _)
  | succ fu ih =>
    intro s S1 hfu hsL g hs
    obtain ⟨x0, xL, x1, x2, x3, x4⟩ := g.x
    have hB : ∀ i, i < T 1 0 → T 0 i ≤ 255 := hT.2
    have hL := hT.1
    refine go_aloadn0 (q := 9) dX2_goAhead_8 rfl ?_
    refine go_tg (q := 12) dX2_goAhead_9 fl_X2_29 rfl rfl ?_
    rw [x2]
    refine go_aloadn0 (q := 13) dX2_goAhead_12 rfl ?_
    refine go_tg (q := 16) dX2_goAhead_13 fl_X2_15 rfl rfl ?_
    rw [xL]
    refine go_icmp_geN (tgt := 45) (q := 19) dX2_goAhead_16 (by decide) rfl (by omega) (by omega) (fun h1 => ?_) (fun h1 => ?_)
    · skip
      exact c_goAhead_45 hT hO (by rw [← hs, sk_n (fun z => by omega)]) hsL g
    · skip
      refine go_aloadn0 (q := 20) dX2_goAhead_19 rfl ?_
      refine go_aloadn0 (q := 21) dX2_goAhead_20 rfl ?_
      refine go_tg (q := 24) dX2_goAhead_21 fl_X2_29 rfl rfl ?_
      rw [x2]
      refine go_it1 (q := 27) dX2_goAhead_24 lk_X2_125 (by decide) (by decide) (Nat.le_of_ble_eq_true rfl) rfl (c_byteAt (by omega) (by omega) ?_)
      rw [x0, xL]
      rw [bt_y (by omega)]
      have hb := hB s (by omega)
      refine go_bipushN (v := 32) (q := 29) dX2_goAhead_27 (by decide) rfl ?_
      refine go_icmp_neN (tgt := 45) (q := 32) dX2_goAhead_29 (by decide) rfl (by omega) (by omega) (fun h2 => ?_) (fun h2 => ?_)
      · skip
        exact c_goAhead_45 hT hO (by rw [← hs, sk_n (fun z => h2 (cl0_b z.2))]) hsL g
      · skip
        refine go_aloadn0 (q := 33) dX2_goAhead_32 rfl ?_
        refine go_dup (q := 34) dX2_goAhead_33 rfl rfl ?_
        refine go_tg (q := 37) dX2_goAhead_34 fl_X2_29 rfl rfl ?_
        rw [x2]
        refine go_iconstN (n := 1) (q := 38) dX2_goAhead_37 rfl ?_
        refine go_iaddN (q := 39) dX2_goAhead_38 rfl ?_
        refine go_tpf (f := 2) (q := 42) dX2_goAhead_39 fp_X2_29 (by decide) rfl ?_
        refine go_goto (tgt := 8) dX2_goAhead_42 (by decide) ?_
        exact ih (s + 1) _ (by omega) (by omega) ((g.u 1 2 (s + 1)).to (tk5_u2 _ _ _ _ _ _)) (by rw [← sk_y (by omega) (cl0_m h2)]; exact hs)

set_option maxHeartbeats 4000000 in
set_option maxRecDepth 100000 in
theorem c_goAhead {S : St} {N : Nat → Nat → Int64} {X : St} {Y : Nat → Int64} {Q : Option Value → AH → Prop} (hT : tpB (S 4)) (he : S 4 1 3 ≤ S 4 1 0) (hO : ∀ S', Ch S S' 4 (tkn (S 4)) → Q none (hp S' N X Y)) : Cn 5 yX2_goAhead cX2_goAhead 2 none [.ref 57] (hp S N X Y) Q := by
  refine cn_of (own := RX2) (lo := [some (.ref 57), none]) 1 rfl (by decide +kernel) rfl (Nat.le_of_ble_eq_true rfl) ?_
  refine go_aloadn0 (q := 1) dX2_goAhead_0 rfl ?_
  refine go_aloadn0 (q := 2) dX2_goAhead_1 rfl ?_
  refine go_tg (q := 5) dX2_goAhead_2 fl_X2_19 rfl rfl ?_
  refine go_tpf (f := 2) (q := 8) dX2_goAhead_5 fp_X2_29 (by decide) rfl ?_
  exact c_goAhead_8 (T := S 4) (k0 := S 4 1 1) (e0 := S 4 1 3) (a0 := S 4 1 4) hT hO (S 4 1 0 - S 4 1 3 + 1) (S 4 1 3) _ (by omega) he (((Ch.rf (S := S) (k := 4)).u 1 2 (S 4 1 3)).to (tk5_s2 (S 4))) rfl
