theorem ks_1 {T : Mk} (w0 : ¬ wd T (kS 0)) (d : Nat) (hd : d < 1) : ¬ wd T (kS d) := by
  match d, hd with
  | 0, _ => exact w0
theorem ks_2 {T : Mk} (w0 : ¬ wd T (kS 0)) (w1 : ¬ wd T (kS 1)) (d : Nat) (hd : d < 2) : ¬ wd T (kS d) := by
  match d, hd with
  | 0, _ => exact w0
  | 1, _ => exact w1
theorem ks_3 {T : Mk} (w0 : ¬ wd T (kS 0)) (w1 : ¬ wd T (kS 1)) (w2 : ¬ wd T (kS 2)) (d : Nat) (hd : d < 3) : ¬ wd T (kS d) := by
  match d, hd with
  | 0, _ => exact w0
  | 1, _ => exact w1
  | 2, _ => exact w2
theorem ks_4 {T : Mk} (w0 : ¬ wd T (kS 0)) (w1 : ¬ wd T (kS 1)) (w2 : ¬ wd T (kS 2)) (w3 : ¬ wd T (kS 3)) (d : Nat) (hd : d < 4) : ¬ wd T (kS d) := by
  match d, hd with
  | 0, _ => exact w0
  | 1, _ => exact w1
  | 2, _ => exact w2
  | 3, _ => exact w3
theorem ks_5 {T : Mk} (w0 : ¬ wd T (kS 0)) (w1 : ¬ wd T (kS 1)) (w2 : ¬ wd T (kS 2)) (w3 : ¬ wd T (kS 3)) (w4 : ¬ wd T (kS 4)) (d : Nat) (hd : d < 5) : ¬ wd T (kS d) := by
  match d, hd with
  | 0, _ => exact w0
  | 1, _ => exact w1
  | 2, _ => exact w2
  | 3, _ => exact w3
  | 4, _ => exact w4
theorem ks_6 {T : Mk} (w0 : ¬ wd T (kS 0)) (w1 : ¬ wd T (kS 1)) (w2 : ¬ wd T (kS 2)) (w3 : ¬ wd T (kS 3)) (w4 : ¬ wd T (kS 4)) (w5 : ¬ wd T (kS 5)) (d : Nat) (hd : d < 6) : ¬ wd T (kS d) := by
  match d, hd with
  | 0, _ => exact w0
  | 1, _ => exact w1
  | 2, _ => exact w2
  | 3, _ => exact w3
  | 4, _ => exact w4
  | 5, _ => exact w5
theorem nI_64 {a : Nat} (h : a < 2 ^ 31) : (nI a).toInt64.toInt = (a : Int) := by rw [i64, nI_toInt h]
theorem rg_nJ {a l m : Nat} (h : a < 2 ^ 31) : rg (nI a) l m ↔ l ≤ a ∧ a ≤ m := by
  unfold rg
  rw [nI_toInt h]
  omega
theorem TR.val {X : St} {T : Mk} (h : TR X T) (h4 : T 1 4 ≤ 9999) : X 3 4 5 = T 1 4 := by
  have := h.2.2.2.2.2.1
  omega

set_option maxHeartbeats 4000000 in
set_option maxRecDepth 100000 in
theorem r_isWord {S : St} {N : Nat → Nat → Int64} {X : St} {Y : Nat → Int64} {Q : Option Value → AH → Prop} {T : Mk} (hR : TR X T) (hG : tpG T) {n : Nat} (hn : n ≤ 7) (hQ : Q (some (.int (bI (iw T n)))) (hp S N X Y)) : Cn 1 yX4_isWord cX4_isWord 2 (some .boolean) [.ref 69, .int (nI n)] (hp S N X Y) Q := by
  refine cn_of (own := RX4) (lo := [some (.ref 69), some (.int (nI n))]) 0 rfl (by decide +kernel) rfl (Nat.le_of_ble_eq_true rfl) ?_
  obtain ⟨r0, rL, rk, rs, re, rv, rb⟩ := id hR
  obtain ⟨⟨hL, hB⟩, hse, heL, ha, hk4⟩ := id hG
  refine go_aloadn0 (q := 1) dX4_isWord_0 rfl ?_
  refine go_xg (q := 4) dX4_isWord_1 fl_X4_209 rfl rfl ?_
  rw [rk]
  refine go_iconstN (n := 1) (q := 5) dX4_isWord_4 rfl ?_
  refine go_icmp_neN (tgt := 25) (q := 8) dX4_isWord_5 (by decide) rfl (by omega) (by omega) (fun h1 => ?_) (fun h1 => ?_)
  · skip
    refine go_iconstN (n := 0) (q := 26) dX4_isWord_25 rfl ?_
    exact go_zretF dX4_isWord_26 rfl (fun z => h1 z.1) hQ
  · skip
    refine go_aloadn0 (q := 9) dX4_isWord_8 rfl ?_
    refine go_xg (q := 12) dX4_isWord_9 fl_X4_194 rfl rfl ?_
    rw [re]
    refine go_aloadn0 (q := 13) dX4_isWord_12 rfl ?_
    refine go_xg (q := 16) dX4_isWord_13 fl_X4_197 rfl rfl ?_
    rw [rs]
    refine go_isubN (q := 17) dX4_isWord_16 hse rfl ?_
    refine go_iloadn1 (q := 18) dX4_isWord_17 rfl ?_
    refine go_icmp_neN (tgt := 25) (q := 21) dX4_isWord_18 (by decide) rfl (by omega) (by omega) (fun h2 => ?_) (fun h2 => ?_)
    · skip
      refine go_iconstN (n := 0) (q := 26) dX4_isWord_25 rfl ?_
      exact go_zretF dX4_isWord_26 rfl (fun z => h2 z.2) hQ
    · skip
      refine go_iconstN (n := 1) (q := 22) dX4_isWord_21 rfl ?_
      refine go_goto (tgt := 26) dX4_isWord_22 (by decide) ?_
      exact go_zretT dX4_isWord_26 rfl ⟨h1, h2⟩ hQ

set_option maxHeartbeats 4000000 in
set_option maxRecDepth 100000 in
theorem r_has3 {S : St} {N : Nat → Nat → Int64} {X : St} {Y : Nat → Int64} {Q : Option Value → AH → Prop} {T : Mk} (hR : TR X T) (hG : tpG T) {i : Nat} {a b c : Int32} (hi : i ≤ 7) (hQ : Q (some (.int (bI (b3 T i a b c)))) (hp S N X Y)) : Cn 1 yX4_has3 cX4_has3 5 (some .boolean) [.ref 69, .int (nI i), .int a, .int b, .int c] (hp S N X Y) Q := by
  refine cn_of (own := RX4) (lo := [some (.ref 69), some (.int (nI i)), some (.int a), some (.int b), some (.int c)]) 0 rfl (by decide +kernel) rfl (Nat.le_of_ble_eq_true rfl) ?_
  obtain ⟨r0, rL, rk, rs, re, rv, rb⟩ := id hR
  obtain ⟨⟨hL, hB⟩, hse, heL, ha, hk4⟩ := id hG
  refine go_aloadn0 (q := 1) dX4_has3_0 rfl ?_
  refine go_aloadn0 (q := 2) dX4_has3_1 rfl ?_
  refine go_xg (q := 5) dX4_has3_2 fl_X4_197 rfl rfl ?_
  rw [rs]
  refine go_iloadn1 (q := 6) dX4_has3_5 rfl ?_
  refine go_iaddN (q := 7) dX4_has3_6 rfl ?_
  refine go_ix1 (q := 10) dX4_has3_7 lk_X4_200 (by decide) (by decide) (Nat.le_of_ble_eq_true rfl) rfl (r_byteAt (by omega) (by omega) ?_)
  rw [r0, rL]
  refine go_iloadn2 (q := 11) dX4_has3_10 rfl ?_
  refine go_icmp_ne (tgt := 51) (q := 14) dX4_has3_11 (by decide) rfl (fun h1 => ?_) (fun h1 => ?_)
  · skip
    refine go_iconstN (n := 0) (q := 52) dX4_has3_51 rfl ?_
    exact go_zretF dX4_has3_52 rfl (fun z => h1 z.1) hQ
  · skip
    refine go_aloadn0 (q := 15) dX4_has3_14 rfl ?_
    refine go_aloadn0 (q := 16) dX4_has3_15 rfl ?_
    refine go_xg (q := 19) dX4_has3_16 fl_X4_197 rfl rfl ?_
    rw [rs]
    refine go_iloadn1 (q := 20) dX4_has3_19 rfl ?_
    refine go_iaddN (q := 21) dX4_has3_20 rfl ?_
    refine go_iconstN (n := 1) (q := 22) dX4_has3_21 rfl ?_
    refine go_iaddN (q := 23) dX4_has3_22 rfl ?_
    refine go_ix1 (q := 26) dX4_has3_23 lk_X4_200 (by decide) (by decide) (Nat.le_of_ble_eq_true rfl) rfl (r_byteAt (by omega) (by omega) ?_)
    rw [r0, rL]
    refine go_iloadn3 (q := 27) dX4_has3_26 rfl ?_
    refine go_icmp_ne (tgt := 51) (q := 30) dX4_has3_27 (by decide) rfl (fun h2 => ?_) (fun h2 => ?_)
    · skip
      refine go_iconstN (n := 0) (q := 52) dX4_has3_51 rfl ?_
      exact go_zretF dX4_has3_52 rfl (fun z => h2 z.2.1) hQ
    · skip
      refine go_aloadn0 (q := 31) dX4_has3_30 rfl ?_
      refine go_aloadn0 (q := 32) dX4_has3_31 rfl ?_
      refine go_xg (q := 35) dX4_has3_32 fl_X4_197 rfl rfl ?_
      rw [rs]
      refine go_iloadn1 (q := 36) dX4_has3_35 rfl ?_
      refine go_iaddN (q := 37) dX4_has3_36 rfl ?_
      refine go_iconstN (n := 2) (q := 38) dX4_has3_37 rfl ?_
      refine go_iaddN (q := 39) dX4_has3_38 rfl ?_
      refine go_ix1 (q := 42) dX4_has3_39 lk_X4_200 (by decide) (by decide) (Nat.le_of_ble_eq_true rfl) rfl (r_byteAt (by omega) (by omega) ?_)
      rw [r0, rL]
      refine go_iload4 (q := 44) dX4_has3_42 rfl ?_
      refine go_icmp_ne (tgt := 51) (q := 47) dX4_has3_44 (by decide) rfl (fun h3 => ?_) (fun h3 => ?_)
      · skip
        refine go_iconstN (n := 0) (q := 52) dX4_has3_51 rfl ?_
        exact go_zretF dX4_has3_52 rfl (fun z => h3 z.2.2) hQ
      · skip
        refine go_iconstN (n := 1) (q := 48) dX4_has3_47 rfl ?_
        refine go_goto (tgt := 52) dX4_has3_48 (by decide) ?_
        exact go_zretT dX4_has3_52 rfl ⟨h1, h2, h3⟩ hQ

set_option maxHeartbeats 4000000 in
set_option maxRecDepth 100000 in
theorem r_isWord4 {S : St} {N : Nat → Nat → Int64} {X : St} {Y : Nat → Int64} {Q : Option Value → AH → Prop} {T : Mk} (hR : TR X T) (hG : tpG T) {a b c d : Int32} (hQ : Q (some (.int (bI (w4 T a b c d)))) (hp S N X Y)) : Cn 2 yX4_isWord4 cX4_isWord4 5 (some .boolean) [.ref 69, .int a, .int b, .int c, .int d] (hp S N X Y) Q := by
  refine cn_of (own := RX4) (lo := [some (.ref 69), some (.int a), some (.int b), some (.int c), some (.int d)]) 0 rfl (by decide +kernel) rfl (Nat.le_of_ble_eq_true rfl) ?_
  obtain ⟨r0, rL, rk, rs, re, rv, rb⟩ := id hR
  obtain ⟨⟨hL, hB⟩, hse, heL, ha, hk4⟩ := id hG
  refine go_aloadn0 (q := 1) dX4_isWord4_0 rfl ?_
  refine go_iconstN (n := 4) (q := 2) dX4_isWord4_1 rfl ?_
  refine go_ix1 (q := 5) dX4_isWord4_2 lk_X4_215 (by decide) (by decide) (Nat.le_of_ble_eq_true rfl) rfl (r_isWord hR hG (by decide) ?_)
  refine go_ifeqB (tgt := 38) (q := 8) dX4_isWord4_5 (by decide) rfl (fun h1 => ?_) (fun h1 => ?_)
  · skip
    refine go_iconstN (n := 0) (q := 39) dX4_isWord4_38 rfl ?_
    exact go_zretF dX4_isWord4_39 rfl (fun z => h1 z.1) hQ
  · skip
    refine go_aloadn0 (q := 9) dX4_isWord4_8 rfl ?_
    refine go_iconstN (n := 0) (q := 10) dX4_isWord4_9 rfl ?_
    refine go_iloadn1 (q := 11) dX4_isWord4_10 rfl ?_
    refine go_iloadn2 (q := 12) dX4_isWord4_11 rfl ?_
    refine go_iloadn3 (q := 13) dX4_isWord4_12 rfl ?_
    refine go_ix4 (q := 16) dX4_isWord4_13 lk_X4_218 (by decide) (by decide) (Nat.le_of_ble_eq_true rfl) rfl (r_has3 hR hG (by decide) ?_)
    refine go_ifeqB (tgt := 38) (q := 19) dX4_isWord4_16 (by decide) rfl (fun h2 => ?_) (fun h2 => ?_)
    · skip
      refine go_iconstN (n := 0) (q := 39) dX4_isWord4_38 rfl ?_
      exact go_zretF dX4_isWord4_39 rfl (fun z => h2 z.2.1) hQ
    · skip
      refine go_aloadn0 (q := 20) dX4_isWord4_19 rfl ?_
      refine go_aloadn0 (q := 21) dX4_isWord4_20 rfl ?_
      refine go_xg (q := 24) dX4_isWord4_21 fl_X4_197 rfl rfl ?_
      rw [rs]
      refine go_iconstN (n := 3) (q := 25) dX4_isWord4_24 rfl ?_
      refine go_iaddN (q := 26) dX4_isWord4_25 rfl ?_
      refine go_ix1 (q := 29) dX4_isWord4_26 lk_X4_200 (by decide) (by decide) (Nat.le_of_ble_eq_true rfl) rfl (r_byteAt (by omega) (by omega) ?_)
      rw [r0, rL]
      refine go_iload4 (q := 31) dX4_isWord4_29 rfl ?_
      refine go_icmp_ne (tgt := 38) (q := 34) dX4_isWord4_31 (by decide) rfl (fun h3 => ?_) (fun h3 => ?_)
      · skip
        refine go_iconstN (n := 0) (q := 39) dX4_isWord4_38 rfl ?_
        exact go_zretF dX4_isWord4_39 rfl (fun z => h3 z.2.2) hQ
      · skip
        refine go_iconstN (n := 1) (q := 35) dX4_isWord4_34 rfl ?_
        refine go_goto (tgt := 39) dX4_isWord4_35 (by decide) ?_
        exact go_zretT dX4_isWord4_39 rfl ⟨h1, h2, h3⟩ hQ

set_option maxHeartbeats 4000000 in
set_option maxRecDepth 100000 in
theorem r_isWord2 {S : St} {N : Nat → Nat → Int64} {X : St} {Y : Nat → Int64} {Q : Option Value → AH → Prop} {T : Mk} (hR : TR X T) (hG : tpG T) {a b : Int32} (hQ : Q (some (.int (bI (w2 T a b)))) (hp S N X Y)) : Cn 2 yX4_isWord2 cX4_isWord2 3 (some .boolean) [.ref 69, .int a, .int b] (hp S N X Y) Q := by
  refine cn_of (own := RX4) (lo := [some (.ref 69), some (.int a), some (.int b)]) 0 rfl (by decide +kernel) rfl (Nat.le_of_ble_eq_true rfl) ?_
  obtain ⟨r0, rL, rk, rs, re, rv, rb⟩ := id hR
  obtain ⟨⟨hL, hB⟩, hse, heL, ha, hk4⟩ := id hG
  refine go_aloadn0 (q := 1) dX4_isWord2_0 rfl ?_
  refine go_iconstN (n := 2) (q := 2) dX4_isWord2_1 rfl ?_
  refine go_ix1 (q := 5) dX4_isWord2_2 lk_X4_215 (by decide) (by decide) (Nat.le_of_ble_eq_true rfl) rfl (r_isWord hR hG (by decide) ?_)
  refine go_ifeqB (tgt := 38) (q := 8) dX4_isWord2_5 (by decide) rfl (fun h1 => ?_) (fun h1 => ?_)
  · skip
    refine go_iconstN (n := 0) (q := 39) dX4_isWord2_38 rfl ?_
    exact go_zretF dX4_isWord2_39 rfl (fun z => h1 z.1) hQ
  · skip
    refine go_aloadn0 (q := 9) dX4_isWord2_8 rfl ?_
    refine go_aloadn0 (q := 10) dX4_isWord2_9 rfl ?_
    refine go_xg (q := 13) dX4_isWord2_10 fl_X4_197 rfl rfl ?_
    rw [rs]
    refine go_ix1 (q := 16) dX4_isWord2_13 lk_X4_200 (by decide) (by decide) (Nat.le_of_ble_eq_true rfl) rfl (r_byteAt (by omega) (by omega) ?_)
    rw [r0, rL]
    refine go_iloadn1 (q := 17) dX4_isWord2_16 rfl ?_
    refine go_icmp_ne (tgt := 38) (q := 20) dX4_isWord2_17 (by decide) rfl (fun h2 => ?_) (fun h2 => ?_)
    · skip
      refine go_iconstN (n := 0) (q := 39) dX4_isWord2_38 rfl ?_
      exact go_zretF dX4_isWord2_39 rfl (fun z => h2 z.2.1) hQ
    · skip
      refine go_aloadn0 (q := 21) dX4_isWord2_20 rfl ?_
      refine go_aloadn0 (q := 22) dX4_isWord2_21 rfl ?_
      refine go_xg (q := 25) dX4_isWord2_22 fl_X4_197 rfl rfl ?_
      rw [rs]
      refine go_iconstN (n := 1) (q := 26) dX4_isWord2_25 rfl ?_
      refine go_iaddN (q := 27) dX4_isWord2_26 rfl ?_
      refine go_ix1 (q := 30) dX4_isWord2_27 lk_X4_200 (by decide) (by decide) (Nat.le_of_ble_eq_true rfl) rfl (r_byteAt (by omega) (by omega) ?_)
      rw [r0, rL]
      refine go_iloadn2 (q := 31) dX4_isWord2_30 rfl ?_
      refine go_icmp_ne (tgt := 38) (q := 34) dX4_isWord2_31 (by decide) rfl (fun h3 => ?_) (fun h3 => ?_)
      · skip
        refine go_iconstN (n := 0) (q := 39) dX4_isWord2_38 rfl ?_
        exact go_zretF dX4_isWord2_39 rfl (fun z => h3 z.2.2) hQ
      · skip
        refine go_iconstN (n := 1) (q := 35) dX4_isWord2_34 rfl ?_
        refine go_goto (tgt := 39) dX4_isWord2_35 (by decide) ?_
        exact go_zretT dX4_isWord2_39 rfl ⟨h1, h2, h3⟩ hQ

set_option maxHeartbeats 4000000 in
set_option maxRecDepth 100000 in
theorem r_isNumber {S : St} {N : Nat → Nat → Int64} {X : St} {Y : Nat → Int64} {Q : Option Value → AH → Prop} {T : Mk} (hR : TR X T) (hG : tpG T) {l m : Nat} (hl : l ≤ 9999) (hm : m ≤ 9999) (hQ : Q (some (.int (bI (nb T l m)))) (hp S N X Y)) : Cn 2 yX4_isNumber cX4_isNumber 3 (some .boolean) [.ref 69, .int (nI l), .int (nI m)] (hp S N X Y) Q := by
  refine cn_of (own := RX4) (lo := [some (.ref 69), some (.int (nI l)), some (.int (nI m))]) 0 rfl (by decide +kernel) rfl (Nat.le_of_ble_eq_true rfl) ?_
  obtain ⟨r0, rL, rk, rs, re, rv, rb⟩ := id hR
  obtain ⟨⟨hL, hB⟩, hse, heL, ha, hk4⟩ := id hG
  refine go_aloadn0 (q := 1) dX4_isNumber_0 rfl ?_
  refine go_xg (q := 4) dX4_isNumber_1 fl_X4_209 rfl rfl ?_
  rw [rk]
  refine go_iconstN (n := 2) (q := 5) dX4_isNumber_4 rfl ?_
  refine go_icmp_neN (tgt := 27) (q := 8) dX4_isNumber_5 (by decide) rfl (by omega) (by omega) (fun h1 => ?_) (fun h1 => ?_)
  · skip
    refine go_iconstN (n := 0) (q := 28) dX4_isNumber_27 rfl ?_
    exact go_zretF dX4_isNumber_28 rfl (fun z => h1 z.1) hQ
  · skip
    refine go_aloadn0 (q := 9) dX4_isNumber_8 rfl ?_
    refine go_xg (q := 12) dX4_isNumber_9 fl_X4_212 rfl rfl ?_
    refine go_i2l (q := 13) dX4_isNumber_12 rfl ?_
    refine go_iloadn1 (q := 14) dX4_isNumber_13 rfl ?_
    refine go_i2l (q := 15) dX4_isNumber_14 rfl ?_
    refine go_iloadn2 (q := 16) dX4_isNumber_15 rfl ?_
    refine go_i2l (q := 17) dX4_isNumber_16 rfl ?_
    refine go_is3_ (q := 20) dX4_isNumber_17 lk_X4_49 (by decide) (by decide) (Nat.le_of_ble_eq_true rfl) rfl (r_isIn (l := l) (m := m) (nI_64 (by omega)) (nI_64 (by omega)) ?_)
    refine go_ifeqB (tgt := 27) (q := 23) dX4_isNumber_20 (by decide) rfl (fun h2 => ?_) (fun h2 => ?_)
    · skip
      refine go_iconstN (n := 0) (q := 28) dX4_isNumber_27 rfl ?_
      exact go_zretF dX4_isNumber_28 rfl (fun z => h2 ((rg_nJ (by omega)).mpr (by have := z.2; omega))) hQ
    · skip
      refine go_iconstN (n := 1) (q := 24) dX4_isNumber_23 rfl ?_
      refine go_goto (tgt := 28) dX4_isNumber_24 (by decide) ?_
      exact go_zretT dX4_isNumber_28 rfl ⟨h1, by have := (rg_nJ (by omega)).mp h2; omega⟩ hQ

set_option maxHeartbeats 4000000 in
set_option maxRecDepth 100000 in
theorem r_goesNumber {S : St} {N : Nat → Nat → Int64} {X : St} {Y : Nat → Int64} {Q : Option Value → AH → Prop} {T : Mk} (hR : TR X T) (hG : tpG T) {l m : Nat} (hl : l ≤ 9999) (hm : m ≤ 9999) (hQ : ∀ X', Tx X X' (tkn T) (X 0) → tpG (tkn T) → (nb (tkn T) l m → X' 3 4 5 = tkn T 1 4) → Q (some (.int (bI (nb (tkn T) l m)))) (hp S N X' Y)) : Cn 3 yX4_goesNumber cX4_goesNumber 3 (some .boolean) [.ref 69, .int (nI l), .int (nI m)] (hp S N X Y) Q := by
  refine cn_of (own := RX4) (lo := [some (.ref 69), some (.int (nI l)), some (.int (nI m))]) 0 rfl (by decide +kernel) rfl (Nat.le_of_ble_eq_true rfl) ?_
  obtain ⟨r0, rL, rk, rs, re, rv, rb⟩ := id hR
  obtain ⟨⟨hL, hB⟩, hse, heL, ha, hk4⟩ := id hG
  refine go_aloadn0 (q := 1) dX4_goesNumber_0 rfl ?_
  refine go_ix0 (q := 4) dX4_goesNumber_1 lk_X4_225 (by decide) (by decide) (Nat.le_of_ble_eq_true rfl) rfl (r_nextToken (T := T) hG.1 r0 rL re heL (fun X1 z1 => ?_))
  have hG1 := tkn_G hG.1 hG.2.2.1
  refine go_aloadn0 (q := 5) dX4_goesNumber_4 rfl ?_
  refine go_iloadn1 (q := 6) dX4_goesNumber_5 rfl ?_
  refine go_iloadn2 (q := 7) dX4_goesNumber_6 rfl ?_
  refine go_ix2 (q := 10) dX4_goesNumber_7 lk_X4_228 (by decide) (by decide) (Nat.le_of_ble_eq_true rfl) rfl (r_isNumber z1.1 hG1 hl hm ?_)
  exact go_zretB dX4_goesNumber_10 rfl (hQ _ z1 hG1 (fun w => TR.val z1.1 (by have := w.2.2; omega)))

set_option maxHeartbeats 4000000 in
set_option maxRecDepth 100000 in
theorem r_kindNamed_114 {S : St} {N : Nat → Nat → Int64} {X : St} {Y : Nat → Int64} {Q : Option Value → AH → Prop} {T : Mk} (hR : TR X T) (hG : tpG T) (hQ : Q (some (.int (if kn T < 6 then nI (kn T) else -1))) (hp S N X Y)) (w0 : ¬ wd T (kS 0)) (w1 : ¬ wd T (kS 1)) (w2 : ¬ wd T (kS 2)) (w3 : ¬ wd T (kS 3)) (w4 : ¬ wd T (kS 4)) : Go 3 RX4 cX4_kindNamed 1 (some .int) 114 [some (.ref 69)] [] (hp S N X Y) Q := by
  refine go_aloadn0 (q := 115) dX4_kindNamed_114 rfl ?_
  refine go_iconstN (n := 3) (q := 116) dX4_kindNamed_115 rfl ?_
  refine go_ix1 (q := 119) dX4_kindNamed_116 lk_X4_215 (by decide) (by decide) (Nat.le_of_ble_eq_true rfl) rfl (r_isWord hR hG (by decide) ?_)
  refine go_ifeqB (tgt := 140) (q := 122) dX4_kindNamed_119 (by decide) rfl (fun k5 => ?_) (fun k5 => ?_)
  · skip
    have w5 : ¬ wd T (kS 5) := fun z => k5 ((wd_3 hG (by decide) (j := 4) rfl rfl rfl rfl).mpr z).1
    refine go_iconstV (v := -1) (q := 141) dX4_kindNamed_140 (by decide) rfl ?_
    exact go_iretE dX4_kindNamed_141 rfl (kn_no (fun d hd => ks_6 (T := T) w0 w1 w2 w3 w4 w5 d hd)) hQ
  · skip
    refine go_aloadn0 (q := 123) dX4_kindNamed_122 rfl ?_
    refine go_iconstN (n := 0) (q := 124) dX4_kindNamed_123 rfl ?_
    refine go_bipushN (v := 115) (q := 126) dX4_kindNamed_124 (by decide) rfl ?_
    refine go_bipushN (v := 107) (q := 128) dX4_kindNamed_126 (by decide) rfl ?_
    refine go_bipushN (v := 121) (q := 130) dX4_kindNamed_128 (by decide) rfl ?_
    refine go_ix4 (q := 133) dX4_kindNamed_130 lk_X4_218 (by decide) (by decide) (Nat.le_of_ble_eq_true rfl) rfl (r_has3 hR hG (by decide) ?_)
    refine go_ifeqB (tgt := 140) (q := 136) dX4_kindNamed_133 (by decide) rfl (fun k6 => ?_) (fun k6 => ?_)
    · skip
      have w5 : ¬ wd T (kS 5) := fun z => k6 ((wd_3 hG (by decide) (j := 4) rfl rfl rfl rfl).mpr z).2
      refine go_iconstV (v := -1) (q := 141) dX4_kindNamed_140 (by decide) rfl ?_
      exact go_iretE dX4_kindNamed_141 rfl (kn_no (fun d hd => ks_6 (T := T) w0 w1 w2 w3 w4 w5 d hd)) hQ
    · skip
      have w5 : wd T (kS 5) := (wd_3 hG (by decide) (j := 4) rfl rfl rfl rfl).mp ⟨k5, k6⟩
      refine go_iconstN (n := 5) (q := 137) dX4_kindNamed_136 rfl ?_
      refine go_goto (tgt := 141) dX4_kindNamed_137 (by decide) ?_
      exact go_iretE dX4_kindNamed_141 rfl (kn_yes (k := 5) (by decide) w5 (fun d hd => ks_5 (T := T) w0 w1 w2 w3 w4 d hd)) hQ

set_option maxHeartbeats 4000000 in
set_option maxRecDepth 100000 in
theorem r_kindNamed_58 {S : St} {N : Nat → Nat → Int64} {X : St} {Y : Nat → Int64} {Q : Option Value → AH → Prop} {T : Mk} (hR : TR X T) (hG : tpG T) (hQ : Q (some (.int (if kn T < 6 then nI (kn T) else -1))) (hp S N X Y)) (w0 : ¬ wd T (kS 0)) (w1 : ¬ wd T (kS 1)) (w2 : ¬ wd T (kS 2)) : Go 3 RX4 cX4_kindNamed 1 (some .int) 58 [some (.ref 69)] [] (hp S N X Y) Q := by
  refine go_aloadn0 (q := 59) dX4_kindNamed_58 rfl ?_
  refine go_bipushN (v := 115) (q := 61) dX4_kindNamed_59 (by decide) rfl ?_
  refine go_bipushN (v := 101) (q := 63) dX4_kindNamed_61 (by decide) rfl ?_
  refine go_bipushN (v := 101) (q := 65) dX4_kindNamed_63 (by decide) rfl ?_
  refine go_bipushN (v := 100) (q := 67) dX4_kindNamed_65 (by decide) rfl ?_
  refine go_ix4 (q := 70) dX4_kindNamed_67 lk_X4_222 (by decide) (by decide) (Nat.le_of_ble_eq_true rfl) rfl (r_isWord4 hR hG ?_)
  refine go_ifeqB (tgt := 75) (q := 73) dX4_kindNamed_70 (by decide) rfl (fun k2 => ?_) (fun k2 => ?_)
  · skip
    have w3 : ¬ wd T (kS 3) := fun z => k2 ((wd_4 hG (by decide) (j := 2) rfl rfl rfl rfl rfl).mpr z)
    refine go_aloadn0 (q := 76) dX4_kindNamed_75 rfl ?_
    refine go_bipushN (v := 6) (q := 78) dX4_kindNamed_76 (by decide) rfl ?_
    refine go_ix1 (q := 81) dX4_kindNamed_78 lk_X4_215 (by decide) (by decide) (Nat.le_of_ble_eq_true rfl) rfl (r_isWord hR hG (by decide) ?_)
    refine go_ifeqB (tgt := 114) (q := 84) dX4_kindNamed_81 (by decide) rfl (fun k3 => ?_) (fun k3 => ?_)
    · skip
      exact r_kindNamed_114 hR hG hQ w0 w1 w2 w3 (fun z => k3 ((wd_6 hG (by decide) (j := 3) rfl rfl rfl rfl rfl rfl rfl).mpr z).1)
    · skip
      refine go_aloadn0 (q := 85) dX4_kindNamed_84 rfl ?_
      refine go_iconstN (n := 0) (q := 86) dX4_kindNamed_85 rfl ?_
      refine go_bipushN (v := 98) (q := 88) dX4_kindNamed_86 (by decide) rfl ?_
      refine go_bipushN (v := 111) (q := 90) dX4_kindNamed_88 (by decide) rfl ?_
      refine go_bipushN (v := 105) (q := 92) dX4_kindNamed_90 (by decide) rfl ?_
      refine go_ix4 (q := 95) dX4_kindNamed_92 lk_X4_218 (by decide) (by decide) (Nat.le_of_ble_eq_true rfl) rfl (r_has3 hR hG (by decide) ?_)
      refine go_ifeqB (tgt := 114) (q := 98) dX4_kindNamed_95 (by decide) rfl (fun k4 => ?_) (fun k4 => ?_)
      · skip
        exact r_kindNamed_114 hR hG hQ w0 w1 w2 w3 (fun z => k4 ((wd_6 hG (by decide) (j := 3) rfl rfl rfl rfl rfl rfl rfl).mpr z).2.1)
      · skip
        refine go_aloadn0 (q := 99) dX4_kindNamed_98 rfl ?_
        refine go_iconstN (n := 3) (q := 100) dX4_kindNamed_99 rfl ?_
        refine go_bipushN (v := 108) (q := 102) dX4_kindNamed_100 (by decide) rfl ?_
        refine go_bipushN (v := 101) (q := 104) dX4_kindNamed_102 (by decide) rfl ?_
        refine go_bipushN (v := 100) (q := 106) dX4_kindNamed_104 (by decide) rfl ?_
        refine go_ix4 (q := 109) dX4_kindNamed_106 lk_X4_218 (by decide) (by decide) (Nat.le_of_ble_eq_true rfl) rfl (r_has3 hR hG (by decide) ?_)
        refine go_ifeqB (tgt := 114) (q := 112) dX4_kindNamed_109 (by decide) rfl (fun k5 => ?_) (fun k5 => ?_)
        · skip
          exact r_kindNamed_114 hR hG hQ w0 w1 w2 w3 (fun z => k5 ((wd_6 hG (by decide) (j := 3) rfl rfl rfl rfl rfl rfl rfl).mpr z).2.2)
        · skip
          have w4 : wd T (kS 4) := (wd_6 hG (by decide) (j := 3) rfl rfl rfl rfl rfl rfl rfl).mp ⟨k3, k4, k5⟩
          refine go_iconstN (n := 4) (q := 113) dX4_kindNamed_112 rfl ?_
          exact go_iretE dX4_kindNamed_113 rfl (kn_yes (k := 4) (by decide) w4 (fun d hd => ks_4 (T := T) w0 w1 w2 w3 d hd)) hQ
  · skip
    have w3 : wd T (kS 3) := (wd_4 hG (by decide) (j := 2) rfl rfl rfl rfl rfl).mp k2
    refine go_iconstN (n := 3) (q := 74) dX4_kindNamed_73 rfl ?_
    exact go_iretE dX4_kindNamed_74 rfl (kn_yes (k := 3) (by decide) w3 (fun d hd => ks_3 (T := T) w0 w1 w2 d hd)) hQ

set_option maxHeartbeats 4000000 in
set_option maxRecDepth 100000 in
theorem r_kindNamed {S : St} {N : Nat → Nat → Int64} {X : St} {Y : Nat → Int64} {Q : Option Value → AH → Prop} {T : Mk} (hR : TR X T) (hG : tpG T) (hQ : Q (some (.int (if kn T < 6 then nI (kn T) else -1))) (hp S N X Y)) : Cn 3 yX4_kindNamed cX4_kindNamed 1 (some .int) [.ref 69] (hp S N X Y) Q := by
  refine cn_of (own := RX4) (lo := [some (.ref 69)]) 0 rfl (by decide +kernel) rfl (Nat.le_of_ble_eq_true rfl) ?_
  refine go_aloadn0 (q := 1) dX4_kindNamed_0 rfl ?_
  refine go_bipushN (v := 99) (q := 3) dX4_kindNamed_1 (by decide) rfl ?_
  refine go_bipushN (v := 111) (q := 5) dX4_kindNamed_3 (by decide) rfl ?_
  refine go_bipushN (v := 105) (q := 7) dX4_kindNamed_5 (by decide) rfl ?_
  refine go_bipushN (v := 110) (q := 9) dX4_kindNamed_7 (by decide) rfl ?_
  refine go_ix4 (q := 12) dX4_kindNamed_9 lk_X4_222 (by decide) (by decide) (Nat.le_of_ble_eq_true rfl) rfl (r_isWord4 hR hG ?_)
  refine go_ifeqB (tgt := 17) (q := 15) dX4_kindNamed_12 (by decide) rfl (fun k0 => ?_) (fun k0 => ?_)
  · skip
    have w0 : ¬ wd T (kS 0) := fun z => k0 ((wd_4 hG (by decide) (j := 5) rfl rfl rfl rfl rfl).mpr z)
    refine go_aloadn0 (q := 18) dX4_kindNamed_17 rfl ?_
    refine go_bipushN (v := 98) (q := 20) dX4_kindNamed_18 (by decide) rfl ?_
    refine go_bipushN (v := 108) (q := 22) dX4_kindNamed_20 (by decide) rfl ?_
    refine go_bipushN (v := 117) (q := 24) dX4_kindNamed_22 (by decide) rfl ?_
    refine go_bipushN (v := 101) (q := 26) dX4_kindNamed_24 (by decide) rfl ?_
    refine go_ix4 (q := 29) dX4_kindNamed_26 lk_X4_222 (by decide) (by decide) (Nat.le_of_ble_eq_true rfl) rfl (r_isWord4 hR hG ?_)
    refine go_ifeqB (tgt := 34) (q := 32) dX4_kindNamed_29 (by decide) rfl (fun k1 => ?_) (fun k1 => ?_)
    · skip
      have w1 : ¬ wd T (kS 1) := fun z => k1 ((wd_4 hG (by decide) (j := 0) rfl rfl rfl rfl rfl).mpr z)
      refine go_aloadn0 (q := 35) dX4_kindNamed_34 rfl ?_
      refine go_iconstN (n := 3) (q := 36) dX4_kindNamed_35 rfl ?_
      refine go_ix1 (q := 39) dX4_kindNamed_36 lk_X4_215 (by decide) (by decide) (Nat.le_of_ble_eq_true rfl) rfl (r_isWord hR hG (by decide) ?_)
      refine go_ifeqB (tgt := 58) (q := 42) dX4_kindNamed_39 (by decide) rfl (fun k2 => ?_) (fun k2 => ?_)
      · skip
        exact r_kindNamed_58 hR hG hQ w0 w1 (fun z => k2 ((wd_3 hG (by decide) (j := 1) rfl rfl rfl rfl).mpr z).1)
      · skip
        refine go_aloadn0 (q := 43) dX4_kindNamed_42 rfl ?_
        refine go_iconstN (n := 0) (q := 44) dX4_kindNamed_43 rfl ?_
        refine go_bipushN (v := 114) (q := 46) dX4_kindNamed_44 (by decide) rfl ?_
        refine go_bipushN (v := 101) (q := 48) dX4_kindNamed_46 (by decide) rfl ?_
        refine go_bipushN (v := 100) (q := 50) dX4_kindNamed_48 (by decide) rfl ?_
        refine go_ix4 (q := 53) dX4_kindNamed_50 lk_X4_218 (by decide) (by decide) (Nat.le_of_ble_eq_true rfl) rfl (r_has3 hR hG (by decide) ?_)
        refine go_ifeqB (tgt := 58) (q := 56) dX4_kindNamed_53 (by decide) rfl (fun k3 => ?_) (fun k3 => ?_)
        · skip
          exact r_kindNamed_58 hR hG hQ w0 w1 (fun z => k3 ((wd_3 hG (by decide) (j := 1) rfl rfl rfl rfl).mpr z).2)
        · skip
          have w2 : wd T (kS 2) := (wd_3 hG (by decide) (j := 1) rfl rfl rfl rfl).mp ⟨k2, k3⟩
          refine go_iconstN (n := 2) (q := 57) dX4_kindNamed_56 rfl ?_
          exact go_iretE dX4_kindNamed_57 rfl (kn_yes (k := 2) (by decide) w2 (fun d hd => ks_2 (T := T) w0 w1 d hd)) hQ
    · skip
      have w1 : wd T (kS 1) := (wd_4 hG (by decide) (j := 0) rfl rfl rfl rfl rfl).mp k1
      refine go_iconstN (n := 1) (q := 33) dX4_kindNamed_32 rfl ?_
      exact go_iretE dX4_kindNamed_33 rfl (kn_yes (k := 1) (by decide) w1 (fun d hd => ks_1 (T := T) w0 d hd)) hQ
  · skip
    have w0 : wd T (kS 0) := (wd_4 hG (by decide) (j := 5) rfl rfl rfl rfl rfl).mp k0
    refine go_iconstN (n := 0) (q := 16) dX4_kindNamed_15 rfl ?_
    exact go_iretE dX4_kindNamed_16 rfl (kn_yes (k := 0) (by decide) w0 (fun d hd => absurd hd (Nat.not_lt_zero d))) hQ
