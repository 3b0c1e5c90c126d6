/-! strings of Tape: their fields, their bytes, and calls upon them -/
def strN : List (List Nat) := [[98, 108, 117, 101], [114, 101, 100], [115, 101, 101, 100], [98, 111, 105, 108, 101, 100], [115, 107, 121], [99, 111, 105, 110], [111, 102], [115, 105, 122, 101], [114, 111, 116, 116, 101, 110], [112, 108, 97, 110, 116, 101, 100], [115, 111, 105, 108], [112, 114, 105, 99, 101], [108, 111, 97, 110], [116, 111], [105, 110]]
def sN (j i : Nat) : Nat := (strN.getD j []).getD i 0
def sL (j : Nat) : Nat := strLen.getD j 0
theorem sL_le {j : Nat} (hj : j < nStr) : sL j ≤ 7 := (by decide +kernel : ∀ j, j < 15 → sL j ≤ 7) j hj
theorem sL_sh {j : Nat} (hj : j < nStr) : (nI (sL j)) >>> ((0 : Int32) &&& 31) = nI (sL j) := (by decide +kernel : ∀ j, j < 15 → (nI (sL j)) >>> ((0 : Int32) &&& 31) = nI (sL j)) j hj
theorem sN_ch {j i : Nat} (hj : j < nStr) (hi : i < sL j) : ((((strByt.getD j []).getD i 0) &&& nI 255).toUInt32 % 65536).toInt32 = nI (sN j i) :=
  (by decide +kernel : ∀ j, j < 15 → ∀ i, i < 7 → i < sL j → ((((strByt.getD j []).getD i 0) &&& nI 255).toUInt32 % 65536).toInt32 = nI (sN j i)) j hj i (Nat.lt_of_lt_of_le hi (sL_le hj)) hi
theorem sN_nar {j i : Nat} (hj : j < nStr) (hi : i < sL j) : narrow .char (.int (nI (sN j i))) = .int (nI (sN j i)) :=
  (by decide +kernel : ∀ j, j < 15 → ∀ i, i < 7 → i < sL j → narrow .char (.int (nI (sN j i))) = .int (nI (sN j i))) j hj i (Nat.lt_of_lt_of_le hi (sL_le hj)) hi
theorem sN_le {j i : Nat} (hj : j < nStr) (hi : i < sL j) : 97 ≤ sN j i ∧ sN j i ≤ 122 :=
  (by decide +kernel : ∀ j, j < 15 → ∀ i, i < 7 → i < sL j → 97 ≤ sN j i ∧ sN j i ≤ 122) j hj i (Nat.lt_of_lt_of_le hi (sL_le hj)) hi
section SR
variable {d : Nat} {own : String} {cc : ByteArray} {nL : Nat} {ret : Option FieldType} {pc q : Nat} {lo : List (Option Value)} {st : List Value} {h : AH} {Q : Option Value → AH → Prop}
theorem go_strV {ix j : Nat} (hd : decode cc pc = .ok (.getfield ix, 3)) (hw : Cond.fieldLink own ix "java/lang/String" "value" "[B" ∈ tW) (hj : j < nStr) (hq : pc + 3 = q) (kk : Go d own cc nL ret q lo (.ref (2000 + j) :: st) h Q) : Go d own cc nL ret pc lo (.ref (1000 + j) :: st) h Q := by
  subst hq
  intro p l e s m args below meth c α cA D H locs ls C0 hP hS hl
  exact vk_getf C0.1 C0.2.1 (C0.2.2.2.2.2.2.2.2.2.1.1 j hj).2.2.1 hS C0.2.2.2.2.1 (C0.2.2.2.2.2.1 _ hw) (fun x h => h) hd (kk p l e s m args below meth c α cA D H locs ls C0 hP hS hl)
theorem go_strC {ix j : Nat} (hd : decode cc pc = .ok (.getfield ix, 3)) (hw : Cond.fieldLink own ix "java/lang/String" "coder" "B" ∈ tW) (hj : j < nStr) (hq : pc + 3 = q) (kk : Go d own cc nL ret q lo (.int 0 :: st) h Q) : Go d own cc nL ret pc lo (.ref (1000 + j) :: st) h Q := by
  subst hq
  intro p l e s m args below meth c α cA D H locs ls C0 hP hS hl
  exact vk_getf C0.1 C0.2.1 (C0.2.2.2.2.2.2.2.2.2.1.1 j hj).2.1 hS C0.2.2.2.2.1 (C0.2.2.2.2.2.1 _ hw) (fun x h => h) hd (kk p l e s m args below meth c α cA D H locs ls C0 hP hS hl)
theorem go_getC {ix : Nat} (hd : decode cc pc = .ok (.getstatic ix, 3)) (hw : Cond.fieldLink own ix "java/lang/String" "COMPACT_STRINGS" "Z" ∈ tW) (hq : pc + 3 = q) (kk : Go d own cc nL ret q lo (.int 1 :: st) h Q) : Go d own cc nL ret pc lo st h Q := by
  subst hq
  intro p l e s m args below meth c α cA D H locs ls C0 hP hS hl
  exact va_gets C0.1 C0.2.1 C0.2.2.2.2.2.2.2.2.2.2.2.1 hS C0.2.2.2.2.1 (C0.2.2.2.2.2.1 _ hw) (fun x h => h) hd (kk p l e s m args below meth c α cA D H locs ls C0 hP hS hl)
theorem go_getP {ix : Nat} (hd : decode cc pc = .ok (.getstatic ix, 3)) (hw : Cond.fieldLink own ix "jdk/internal/util/Preconditions" "SIOOBE_FORMATTER" "Ljava/util/function/BiFunction;" ∈ tW) (hq : pc + 3 = q) (kk : ∀ z : Value, (z = .ref 3000 ∨ z = .null) → Go d own cc nL ret q lo (z :: st) h Q) : Go d own cc nL ret pc lo st h Q := by
  subst hq
  intro p l e s m args below meth c α cA D H locs ls C0 hP hS hl
  rcases C0.2.2.2.2.2.2.2.2.2.2.2.2 with hz | hz
  · exact va_gets C0.1 C0.2.1 hz hS C0.2.2.2.2.1 (C0.2.2.2.2.2.1 _ hw) (fun x h => h) hd (kk (.ref 3000) (Or.inl rfl) p l e s m args below meth c α cA D H locs ls C0 hP hS hl)
  · exact va_gets C0.1 C0.2.1 hz hS C0.2.2.2.2.1 (C0.2.2.2.2.2.1 _ hw) (fun x h => h) hd (kk .null (Or.inr rfl) p l e s m args below meth c α cA D H locs ls C0 hP hS hl)
theorem go_blen {j : Nat} (hd : decode cc pc = .ok (.arraylength, 1)) (hj : j < nStr) (hq : pc + 1 = q) (kk : Go d own cc nL ret q lo (.int (nI (sL j)) :: st) h Q) : Go d own cc nL ret pc lo (.ref (2000 + j) :: st) h Q := by
  subst hq
  intro p l e s m args below meth c α cA D H locs ls C0 hP hS hl
  exact va_tlen C0.1 C0.2.1 (C0.2.2.2.2.2.2.2.2.2.1.1 j hj).2.2.2 hS rfl hd (kk p l e s m args below meth c α cA D H locs ls C0 hP hS hl)
theorem go_bald {j i : Nat} (hd : decode cc pc = .ok (.baload, 1)) (hj : j < nStr) (hi : i < sL j) (hq : pc + 1 = q) (kk : Go d own cc nL ret q lo (.int ((strByt.getD j []).getD i 0) :: st) h Q) : Go d own cc nL ret pc lo (.int (nI i) :: .ref (2000 + j) :: st) h Q := by
  subst hq
  intro p l e s m args below meth c α cA D H locs ls C0 hP hS hl
  have h7 := sL_le hj
  exact va_tb C0.1 C0.2.1 (C0.2.2.2.2.2.2.2.2.2.1.1 j hj).2.2.2 hS (vp_in_nI hi (Nat.lt_of_le_of_lt h7 (by decide))) (by rw [nI_clamp (by omega)]; rfl) hd (kk p l e s m args below meth c α cA D H locs ls C0 hP hS hl)
theorem go_i2c {x v : Int32} (hd : decode cc pc = .ok (.i2c, 1)) (hv : (x.toUInt32 % 65536).toInt32 = v) (hq : pc + 1 = q) (k : Go d own cc nL ret q lo (.int v :: st) h Q) : Go d own cc nL ret pc lo (.int x :: st) h Q := by
  subst hq
  intro p l e s m args below meth c α cA D H locs ls C hP hS hl
  exact lv_i2c C.1 C.2.1 hd hv (k p l e s m args below meth c α cA D H locs ls C hP hS hl)
set_option maxHeartbeats 1000000 in
theorem go_invO {d' ix np j nL' : Nat} {y : MethodName} {cc' : ByteArray} {ret' : Option FieldType} {As : List Value}
    (hd : decode cc pc = .ok (.invokevirtual ix, 3)) (lk : LkB own ix y cc' nL' ret' np ∧ Cond.instanceMethod y ∈ tW ∧ Cond.selects y.cls y y ∈ tW) (hy : y.cls = "java/lang/String") (hlt : d' < d) (hL : nL' ≤ 40) (hst : (st.map fun v => v.category).sum ≤ 8) (hj : j < nStr) (hn : As.length = np) (hq : pc + 3 = q)
    (kk : Cn d' y cc' nL' ret' (.ref (1000 + j) :: As) h (fun v h' => Go d own cc nL ret q lo (rv v st) h' Q)) : Go d own cc nL ret pc lo (As.reverse ++ .ref (1000 + j) :: st) h Q := by
  subst hq
  intro p l e s m args below meth c α cA D H locs ls C0 hP hS hl
  obtain ⟨lk0, hin, hse⟩ := lk
  have hK := C0.2.2.2.2.2.2.2.1
  have hM := kk l α cA D C0.2.2.2.2.2.2.2.2.1
  have es : (As.reverse ++ .ref (1000 + j) :: st).map (cV α) = (As.map (cV α)).reverse ++ .ref (α (1000 + j)) :: st.map (cV α) := by simp [cV]
  rw [es]
  refine go_run (va_runV (C := y.cls) (b := α (1000 + j)) (As := As.map (cV α)) (rest := st.map (cV α)) ⟨C0.1, C0.2.1, C0.2.2.1, C0.2.2.2.2.1, C0.2.2.2.2.2.1⟩ hM ⟨callB_tW rfl C0.2.2.2.2.2.1 lk0 hlt hL, C0.2.2.2.2.2.1 _ hin, C0.2.2.2.2.2.1 _ hse⟩
    ⟨fun a U g mk z => ⟨z.1, z.2.1, va_K.moved (u := U) (U := U.calling g mk a) (Vm.Alike.refl U.vm) z.2.2.1, z.2.2.2.blind g mk a⟩, (by rw [hy]; exact vk_recv (adK := fun j => α (1000 + j)) (i := j) C0.2.2.2.2.2.2.2.2.2.1 hj hS), fun U hU hW => ⟨rfl, by rw [hU]; exact hP, va_K.moved hW.alike hK, C0.2.2.2.2.2.2.2.2.2.call hS hU hW⟩⟩
    rfl (by rw [List.length_map]; exact hn) hl.1 rfl (lv_room (by rw [map_cat]; exact hst)) hd ⟨Nat.le_refl _, Nat.le_refl _⟩) hS (fun v h' H1 locs1 hQ hP1 hS1 => ?_)
  rw [rv_map]
  exact hQ p l e s m args below meth c α cA D H1 locs1 ls C0 hP1 hS1 hl
end SR
section SO
variable {d : Nat} {own : String} {cc : ByteArray} {nL : Nat} {ret : Option FieldType} {pc q : Nat} {lo : List (Option Value)} {st : List Value} {h : AH} {Q : Option Value → AH → Prop} {d' ix j nL' : Nat} {y : MethodName} {cc' : ByteArray} {ret' : Option FieldType}
theorem go_io0 (hd : decode cc pc = .ok (.invokevirtual ix, 3)) (lk : LkB own ix y cc' nL' ret' 0 ∧ Cond.instanceMethod y ∈ tW ∧ Cond.selects y.cls y y ∈ tW) (hy : y.cls = "java/lang/String") (hlt : d' < d) (hL : nL' ≤ 40) (hst : (st.map fun v => v.category).sum ≤ 8) (hj : j < nStr) (hq : pc + 3 = q)
    (kk : Cn d' y cc' nL' ret' [.ref (1000 + j)] h (fun v h' => Go d own cc nL ret q lo (rv v st) h' Q)) : Go d own cc nL ret pc lo (.ref (1000 + j) :: st) h Q := go_invO (As := []) hd lk hy hlt hL hst hj rfl hq kk
theorem go_io1 {a1 : Value} (hd : decode cc pc = .ok (.invokevirtual ix, 3)) (lk : LkB own ix y cc' nL' ret' 1 ∧ Cond.instanceMethod y ∈ tW ∧ Cond.selects y.cls y y ∈ tW) (hy : y.cls = "java/lang/String") (hlt : d' < d) (hL : nL' ≤ 40) (hst : (st.map fun v => v.category).sum ≤ 8) (hj : j < nStr) (hq : pc + 3 = q)
    (kk : Cn d' y cc' nL' ret' [.ref (1000 + j), a1] h (fun v h' => Go d own cc nL ret q lo (rv v st) h' Q)) : Go d own cc nL ret pc lo (a1 :: .ref (1000 + j) :: st) h Q := go_invO (As := [a1]) hd lk hy hlt hL hst hj rfl hq kk
end SO
section SM
variable {h : AH} {Q : Option Value → AH → Prop} {j i : Nat}
theorem c_coder (hj : j < nStr) (hQ : Q (some (.int 0)) h) : Cn 0 yJ0_coder_7d493 cJ0_coder_7d493 1 (some .byte) [.ref (1000 + j)] h Q := by
  refine cn_ofF (own := RJ0) (lo := [some (.ref (1000 + j))]) 0 rfl (by decide +kernel) rfl (Nat.le_of_ble_eq_true rfl) ?_
  refine go_getC (q := 3) dJ0_coder_7d493_0 fo_J0_38 rfl ?_
  refine go_if_eq (tgt := 13) (q := 6) dJ0_coder_7d493_3 (by decide) rfl (fun z => absurd z (by decide)) (fun _ => ?_)
  refine go_aloadn0 (q := 7) dJ0_coder_7d493_6 rfl ?_
  refine go_strC (q := 10) dJ0_coder_7d493_7 fo_J0_15 hj rfl ?_
  refine go_goto (tgt := 14) dJ0_coder_7d493_10 (by decide) ?_
  exact go_zret dJ0_coder_7d493_14 rfl (by decide) hQ
theorem c_isLatin1 (hj : j < nStr) (hQ : Q (some (.int 1)) h) : Cn 0 yJ0_isLatin1_aae02 cJ0_isLatin1_aae02 1 (some .boolean) [.ref (1000 + j)] h Q := by
  refine cn_ofF (own := RJ0) (lo := [some (.ref (1000 + j))]) 0 rfl (by decide +kernel) rfl (Nat.le_of_ble_eq_true rfl) ?_
  refine go_getC (q := 3) dJ0_isLatin1_aae02_0 fo_J0_38 rfl ?_
  refine go_if_eq (tgt := 17) (q := 6) dJ0_isLatin1_aae02_3 (by decide) rfl (fun z => absurd z (by decide)) (fun _ => ?_)
  refine go_aloadn0 (q := 7) dJ0_isLatin1_aae02_6 rfl ?_
  refine go_strC (q := 10) dJ0_isLatin1_aae02_7 fo_J0_15 hj rfl ?_
  refine go_if_ne (tgt := 17) (q := 13) dJ0_isLatin1_aae02_10 (by decide) rfl (fun z => absurd rfl z) (fun _ => ?_)
  refine go_iconstN (n := 1) (q := 14) dJ0_isLatin1_aae02_13 rfl ?_
  refine go_goto (tgt := 18) dJ0_isLatin1_aae02_14 (by decide) ?_
  exact go_zret dJ0_isLatin1_aae02_18 rfl (by decide) hQ
theorem c_strlen (hj : j < nStr) (hQ : Q (some (.int (nI (sL j)))) h) : Cn 1 yJ0_length_8abf5 cJ0_length_8abf5 1 (some .int) [.ref (1000 + j)] h Q := by
  refine cn_ofF (own := RJ0) (lo := [some (.ref (1000 + j))]) 0 rfl (by decide +kernel) rfl (Nat.le_of_ble_eq_true rfl) ?_
  refine go_aloadn0 (q := 1) dJ0_length_8abf5_0 rfl ?_
  refine go_strV (q := 4) dJ0_length_8abf5_1 fo_J0_9 hj rfl ?_
  refine go_blen (q := 5) dJ0_length_8abf5_4 hj rfl ?_
  refine go_aloadn0 (q := 6) dJ0_length_8abf5_5 rfl ?_
  refine go_io0 (q := 9) dJ0_length_8abf5_6 lk_J0_335 rfl (by decide) (by decide) (Nat.le_of_ble_eq_true rfl) hj rfl (c_coder hj ?_)
  refine go_ishr (q := 10) dJ0_length_8abf5_9 rfl ?_
  exact go_iretE dJ0_length_8abf5_10 rfl (sL_sh hj).symm hQ
theorem c_jcheckR {x y : Nat} (hx : x < 2 ^ 31) (hy : y < 2 ^ 31) (hxy : x < y) (hQ : Q (some (.int (nI x))) h) : Cn 0 yJ3_checkIndex_8e157 cJ3_checkIndex_8e157 3 (some .int) [.int (nI x), .int (nI y), .ref 3000] h Q := by
  refine cn_ofF (own := RJ3) (lo := [some (.int (nI x)), some (.int (nI y)), some (.ref 3000)]) 0 rfl (by decide +kernel) rfl (Nat.le_of_ble_eq_true rfl) ?_
  refine go_iloadn0 (q := 1) dJ3_checkIndex_8e157_0 rfl ?_
  refine go_if_ltN (tgt := 9) (q := 4) dJ3_checkIndex_8e157_1 (by decide) rfl hx (fun z => z.elim) (fun _ => ?_)
  refine go_iloadn0 (q := 5) dJ3_checkIndex_8e157_4 rfl ?_
  refine go_iloadn1 (q := 6) dJ3_checkIndex_8e157_5 rfl ?_
  refine go_icmp_ltN (tgt := 16) (q := 9) dJ3_checkIndex_8e157_6 (by decide) rfl hx hy (fun _ => ?_) (fun z => absurd hxy z)
  refine go_iloadn0 (q := 17) dJ3_checkIndex_8e157_16 rfl ?_
  exact go_iret dJ3_checkIndex_8e157_17 rfl hQ
theorem c_jcheckN {x y : Nat} (hx : x < 2 ^ 31) (hy : y < 2 ^ 31) (hxy : x < y) (hQ : Q (some (.int (nI x))) h) : Cn 0 yJ3_checkIndex_8e157 cJ3_checkIndex_8e157 3 (some .int) [.int (nI x), .int (nI y), .null] h Q := by
  refine cn_ofF (own := RJ3) (lo := [some (.int (nI x)), some (.int (nI y)), some (.null)]) 0 rfl (by decide +kernel) rfl (Nat.le_of_ble_eq_true rfl) ?_
  refine go_iloadn0 (q := 1) dJ3_checkIndex_8e157_0 rfl ?_
  refine go_if_ltN (tgt := 9) (q := 4) dJ3_checkIndex_8e157_1 (by decide) rfl hx (fun z => z.elim) (fun _ => ?_)
  refine go_iloadn0 (q := 5) dJ3_checkIndex_8e157_4 rfl ?_
  refine go_iloadn1 (q := 6) dJ3_checkIndex_8e157_5 rfl ?_
  refine go_icmp_ltN (tgt := 16) (q := 9) dJ3_checkIndex_8e157_6 (by decide) rfl hx hy (fun _ => ?_) (fun z => absurd hxy z)
  refine go_iloadn0 (q := 17) dJ3_checkIndex_8e157_16 rfl ?_
  exact go_iret dJ3_checkIndex_8e157_17 rfl hQ
theorem c_jcheck {x y : Nat} {z : Value} (hz : z = .ref 3000 ∨ z = .null) (hx : x < 2 ^ 31) (hy : y < 2 ^ 31) (hxy : x < y) (hQ : Q (some (.int (nI x))) h) : Cn 0 yJ3_checkIndex_8e157 cJ3_checkIndex_8e157 3 (some .int) [.int (nI x), .int (nI y), z] h Q := by
  rcases hz with rfl | rfl
  · exact c_jcheckR hx hy hxy hQ
  · exact c_jcheckN hx hy hxy hQ
theorem c_scheck {x y : Nat} (hx : x < 2 ^ 31) (hy : y < 2 ^ 31) (hxy : x < y) (hQ : Q none h) : Cn 1 yJ0_checkIndex_df160 cJ0_checkIndex_df160 2 none [.int (nI x), .int (nI y)] h Q := by
  refine cn_ofF (own := RJ0) (lo := [some (.int (nI x)), some (.int (nI y))]) 0 rfl (by decide +kernel) rfl (Nat.le_of_ble_eq_true rfl) ?_
  refine go_iloadn0 (q := 1) dJ0_checkIndex_df160_0 rfl ?_
  refine go_iloadn1 (q := 2) dJ0_checkIndex_df160_1 rfl ?_
  refine go_getP (q := 5) dJ0_checkIndex_df160_2 fo_J0_1053 rfl (fun z hz => ?_)
  refine go_is3_ (q := 8) dJ0_checkIndex_df160_5 lk_J0_1059 (by decide) (by decide) (Nat.le_of_ble_eq_true rfl) rfl (c_jcheck hz hx hy hxy ?_)
  refine go_pop (q := 9) dJ0_checkIndex_df160_8 rfl rfl ?_
  exact go_ret0 dJ0_checkIndex_df160_9 rfl hQ
theorem c_lcharAt (hj : j < nStr) (hi : i < sL j) (hQ : Q (some (.int (nI (sN j i)))) h) : Cn 2 yJ1_charAt_3b067 cJ1_charAt_3b067 2 (some .char) [.ref (2000 + j), .int (nI i)] h Q := by
  have h7 := sL_le hj
  refine cn_ofF (own := RJ1) (lo := [some (.ref (2000 + j)), some (.int (nI i))]) 0 rfl (by decide +kernel) rfl (Nat.le_of_ble_eq_true rfl) ?_
  refine go_iloadn1 (q := 1) dJ1_charAt_3b067_0 rfl ?_
  refine go_aloadn0 (q := 2) dJ1_charAt_3b067_1 rfl ?_
  refine go_blen (q := 3) dJ1_charAt_3b067_2 hj rfl ?_
  refine go_is2_ (q := 6) dJ1_charAt_3b067_3 lk_J1_9 (by decide) (by decide) (Nat.le_of_ble_eq_true rfl) rfl (c_scheck (by omega) (by omega) hi ?_)
  refine go_aloadn0 (q := 7) dJ1_charAt_3b067_6 rfl ?_
  refine go_iloadn1 (q := 8) dJ1_charAt_3b067_7 rfl ?_
  refine go_bald (q := 9) dJ1_charAt_3b067_8 hj hi rfl ?_
  refine go_sipushN (v := 255) (q := 12) dJ1_charAt_3b067_9 (by decide) rfl ?_
  refine go_iand (q := 13) dJ1_charAt_3b067_12 rfl ?_
  refine go_i2c (q := 14) dJ1_charAt_3b067_13 (sN_ch hj hi) rfl ?_
  exact go_zret dJ1_charAt_3b067_14 rfl (sN_nar hj hi) hQ
theorem c_charAt (hj : j < nStr) (hi : i < sL j) (hQ : Q (some (.int (nI (sN j i)))) h) : Cn 3 yJ0_charAt_5068e cJ0_charAt_5068e 2 (some .char) [.ref (1000 + j), .int (nI i)] h Q := by
  refine cn_ofF (own := RJ0) (lo := [some (.ref (1000 + j)), some (.int (nI i))]) 0 rfl (by decide +kernel) rfl (Nat.le_of_ble_eq_true rfl) ?_
  refine go_aloadn0 (q := 1) dJ0_charAt_5068e_0 rfl ?_
  refine go_io0 (q := 4) dJ0_charAt_5068e_1 lk_J0_492 rfl (by decide) (by decide) (Nat.le_of_ble_eq_true rfl) hj rfl (c_isLatin1 hj ?_)
  refine go_if_eq (tgt := 16) (q := 7) dJ0_charAt_5068e_4 (by decide) rfl (fun z => absurd z (by decide)) (fun _ => ?_)
  refine go_aloadn0 (q := 8) dJ0_charAt_5068e_7 rfl ?_
  refine go_strV (q := 11) dJ0_charAt_5068e_8 fo_J0_9 hj rfl ?_
  refine go_iloadn1 (q := 12) dJ0_charAt_5068e_11 rfl ?_
  refine go_is2_ (q := 15) dJ0_charAt_5068e_12 lk_J0_495 (by decide) (by decide) (Nat.le_of_ble_eq_true rfl) rfl (c_lcharAt hj hi ?_)
  exact go_zret dJ0_charAt_5068e_15 rfl (sN_nar hj hi) hQ
end SM
