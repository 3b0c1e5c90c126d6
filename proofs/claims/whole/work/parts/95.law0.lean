/-! THE CLAIM OUT OF ONE WALK OF THE LAW'S BODY. Your part is whole_start (and what it stands on); all else here is the same for every law, but numbers. -/
def R_law : String := "SproutCoinsLaw"
def lw_P (b : Addr) (xs : List Int32) (args : Array Value) (s : State) : Prop := args = #[.ref b] ∧ s.IntsAt b xs ∧ xs.length ≤ 3072 ∧ (Jvm.Cond.and given_1 narrow_1).before args s = true
def lw_Q (_ : Array Value) (s : State) (o : Outcome) (t : State) : Prop := o = .returned (some (.int 1)) ∧ Framed s o t [] 600000 7302250
def lw_Z (below : List Frame) (a : Array Value) (s : State) : State → Prop := fun t => ∃ o, t.status = .running ∧ Ended t below o ∧ lw_Q a s o t
/-- the law's own end, with 1 on the stack, nothing written that was there before, its room as the claim has it -/
theorem lw_ret {p : Program} {l : Launch} {e : Env} {s : State} {m : MethodId} {below : List Frame} {meth : Method} {c : Code} {b : Nat} (hx : p.tables.exec = Jvm.exec) (hb : c.code = code) (hr : meth.sig.returnType = ret) (hlocks : meth.locks = false) {pc : Nat} {H : Heap} {ls : Array Slot} (hdg : decode code pc = .ok (.ireturn, 1)) : W p l e room_1 s m #[Value.ref b] below meth c H [] 600000 7302250 (lw_Z below #[Value.ref b] s) (F0 m pc ls [.int 1]) := by
  intro T hT X
  obtain ⟨fs, hret, hrun, hended, hW, hframe⟩ := X.leave (v := some (.int 1)) (hlocks := hlocks) (fun h => by rw [hr] at h; cases h)
  have hmeth' : T.vm.method? m = some meth := X.method'
  refine ⟨T.setFrames fs, ?_, .returned (some (.int 1)), hrun, hended, rfl, ⟨_, rfl⟩, hW, hframe⟩
  jvm_step X.here [X.here.top, hx, hb, hdg, hmeth', hr, ret, narrow_b1]
  (try refine ⟨rfl, ?_⟩); (try refine ⟨rfl, ?_⟩)
  first | (intro acts; rw [hret _ acts rfl rfl rfl]) | rw [hret _ _ rfl rfl rfl]
  exact Steps.refl _
/-- what holds at the law's entry: the machine, the code, the tables' words (any of lw_tbl by 'hts w (by decide +kernel)'), the script of L ints xs at the cell b, what the Statement gives of the start (any of its parts by flat_of_before) -/
def lw_At (p : Program) (s : State) (m : MethodId) (meth : Method) (c : Code) (b L : Nat) (xs : Nat → Int32) : Prop :=
  p.tables.exec = Jvm.exec ∧ c.code = code ∧ meth.sig.returnType = ret ∧ c.maxLocals = 4 ∧ s.vm.findClass R_law = some m.cls ∧ (∀ w ∈ lw_tbl, w.before #[Value.ref b] s = true) ∧ va_X b L xs s s.heap ∧ b < s.heap.size ∧ meth.locks = false ∧ (Jvm.Cond.and given_1 narrow_1).before #[Value.ref b] s = true
/-! THE LAW'S LAYER: its own frame over the numbered cells; the script's ints are loaded in one stroke -/
def STN (α : Nat → Nat) (U : State) : Prop := vk_S nStr strLen strByt (fun j => α (1000 + j)) (fun j => α (2000 + j)) (fun q => U.heap.size ≤ q) U U.heap ∧ (∀ j, j < nStr → vk_R RX2 (strIx.getD j 0) (strTx.getD j "") (α (1000 + j)) U) ∧ va_Z "java/lang/String" "COMPACT_STRINGS" "Z" (.int 1) (fun q => U.heap.size ≤ q) U U.heap ∧ (va_Z "jdk/internal/util/Preconditions" "SIOOBE_FORMATTER" "Ljava/util/function/BiFunction;" (.ref (α 3000)) (fun q => U.heap.size ≤ q) U U.heap ∨ va_Z "jdk/internal/util/Preconditions" "SIOOBE_FORMATTER" "Ljava/util/function/BiFunction;" .null (fun q => U.heap.size ≤ q) U U.heap)
theorem STN.call {α : Nat → Nat} {s U : State} {H : Heap} {locs : List Loc} (h : STN α s) (hα : ∀ i, i < nC → s.heap.size ≤ α i) (hS : va_S (fun q => s.heap.size ≤ q) s.heap H locs) (hU : U.heap = H) (hW : s.WarmedH U.vm) : ST α U := by
  obtain ⟨h1, h2, h3, h4⟩ := h
  have hn : ∀ q, wA α q → s.heap.size ≤ q := fun q ⟨i, hi, e⟩ => e ▸ hα i hi
  refine ⟨?_, fun j hj => vk_R.warm hW (h2 j hj), ?_, ?_⟩
  · rw [hU]
    exact ((h1.kept hS.2.1).narrow hn).moved hW.alike
  · rw [hU]
    exact ((h3.kept hS.2.1).narrow hn).moved hW.alike
  · rw [hU]
    exact h4.imp (fun h => ((h.kept hS.2.1).narrow hn).moved hW.alike) (fun h => ((h.kept hS.2.1).narrow hn).moved hW.alike)
def Lc (p : Program) (s : State) (m : MethodId) (meth : Method) (c : Code) (b L : Nat) (xs : Nat → Int32) (α : Nat → Nat) (cA : Nat → ClassId) (D : va_G) : Prop :=
  p.tables.exec = Jvm.exec ∧ c.code = code ∧ meth.sig.returnType = ret ∧ c.maxLocals = 4 ∧ s.vm.findClass RL = some m.cls ∧ (∀ w ∈ tW, w.before #[Value.ref b] s = true) ∧ va_X b L xs s s.heap ∧ b < s.heap.size ∧ meth.locks = false ∧ va_K D vwCl (tyC cA) s ∧ ainj α ∧ STN α s ∧ ∀ i, i < nC → s.heap.size ≤ α i
def GoL (b L : Nat) (xs : Nat → Int32) (pc i : Nat) (st : List Value) (h : AH) : Prop :=
  ∀ (p : Program) (l : Launch) (e : Env) (s : State) (m : MethodId) (below : List Frame) (meth : Method) (c : Code) (α : Nat → Nat) (cA : Nat → ClassId) (D : va_G) (H : Heap) (locs : List Loc) (ls : Array Slot),
    Lc p s m meth c b L xs α cA D → va_P D vwCl (cW α cA h) H → va_S (fun q => s.heap.size ≤ q) s.heap H locs → lv_has ls 4 [(0, .ref b), (1, .ref (α 0)), (2, .ref (α 69)), (3, .int (nI i))] →
    W p l e room_1 s m #[Value.ref b] below meth c H locs 80 5643 (lw_Z below #[Value.ref b] s) (F0 m pc ls (st.map (cV α)))
section GL
variable {b L : Nat} {xs : Nat → Int32} {pc q i : Nat} {st : List Value} {h : AH}
theorem gl_x (hd : decode code pc = .ok (.aload_n 1, 1)) (hq : pc + 1 = q) (k : GoL b L xs q i (.ref 0 :: st) h) : GoL b L xs pc i st h := by
  subst hq
  intro p l e s m below meth c α cA D H locs ls C hP hS hl
  exact lv_aload_n C.1 C.2.1 hd rfl (lv_at hl 1 rfl) (k p l e s m below meth c α cA D H locs ls C hP hS hl)
theorem gl_m (hd : decode code pc = .ok (.aload_n 2, 1)) (hq : pc + 1 = q) (k : GoL b L xs q i (.ref 69 :: st) h) : GoL b L xs pc i st h := by
  subst hq
  intro p l e s m below meth c α cA D H locs ls C hP hS hl
  exact lv_aload_n C.1 C.2.1 hd rfl (lv_at hl 2 rfl) (k p l e s m below meth c α cA D H locs ls C hP hS hl)
theorem gl_arg (j : Nat) (h0 : decode code pc = .ok (.aload_n 0, 1)) (h1 : decode code (pc + 1) = .ok (.iload_n 3, 1)) (h2 : decode code (pc + 2) = .ok (.iconst (j : Nat), 1)) (h3 : decode code (pc + 3) = .ok (.iadd, 1)) (h4 : decode code (pc + 4) = .ok (.iaload, 1)) (hj : i + j < L) (hL : L ≤ 3072) (hq : pc + 5 = q) (k : GoL b L xs q i (.int (xs (i + j)) :: st) h) : GoL b L xs pc i st h := by
  subst hq
  intro p l e s m below meth c α cA D H locs ls C hP hS hl
  obtain ⟨hx, hb, hr, hml, hown, ht, hX, hbl, hlk, hK, hJ, hT, hα⟩ := id C
  refine lv_aload_n hx hb h0 rfl (lv_at hl 0 rfl) ?_
  refine lv_iload_n hx hb h1 rfl (lv_at hl 3 rfl) ?_
  refine lv_iconst (v := nI j) hx hb h2 rfl ?_
  refine lv_iadd hx hb h3 ?_
  rw [nI_add]
  refine va_sld (A := fun q => s.heap.size ≤ q) hx hb hX hbl (Nat.not_le.mpr hbl) hS (vp_in_nI hj (by omega)) h4 ?_
  rw [nI_clamp (by omega)]
  exact k p l e s m below meth c α cA D H locs ls C hP hS hl
theorem gl_i2l {x : Int32} (hd : decode code pc = .ok (.i2l, 1)) (hq : pc + 1 = q) (k : GoL b L xs q i (.long x.toInt64 :: st) h) : GoL b L xs pc i (.int x :: st) h := by
  subst hq
  intro p l e s m below meth c α cA D H locs ls C hP hS hl
  exact lv_i2l C.1 C.2.1 hd rfl (k p l e s m below meth c α cA D H locs ls C hP hS hl)
theorem gl_bipush {n : Int} {v : Int32} (hd : decode code pc = .ok (.bipush n, 2)) (hv : (Int8.ofInt n).toInt32 = v) (hq : pc + 2 = q) (k : GoL b L xs q i (.int v :: st) h) : GoL b L xs pc i st h := by
  subst hq
  intro p l e s m below meth c α cA D H locs ls C hP hS hl
  exact lv_bipush C.1 C.2.1 hd hv (k p l e s m below meth c α cA D H locs ls C hP hS hl)
theorem gl_lshl {x v : Int64} {y : Int32} (hd : decode code pc = .ok (.lshl, 1)) (hv : x <<< (y.toInt64 &&& 63) = v) (hq : pc + 1 = q) (k : GoL b L xs q i (.long v :: st) h) : GoL b L xs pc i (.int y :: .long x :: st) h := by
  subst hq
  intro p l e s m below meth c α cA D H locs ls C hP hS hl
  exact lv_lshl C.1 C.2.1 hd hv (k p l e s m below meth c α cA D H locs ls C hP hS hl)
theorem gl_ldc2 {ix : Nat} {v : Int64} (hd : decode code pc = .ok (.ldc2_w ix, 3)) (hw : Cond.constantLong RL ix v ∈ tW) (hq : pc + 3 = q) (k : GoL b L xs q i (.long v :: st) h) : GoL b L xs pc i st h := by
  subst hq
  intro p l e s m below meth c α cA D H locs ls C hP hS hl
  exact lv_ldc2 C.1 C.2.1 C.2.2.2.2.1 (C.2.2.2.2.2.1 _ hw) hd (k p l e s m below meth c α cA D H locs ls C hP hS hl)
theorem gl_land {x y : Int64} (hd : decode code pc = .ok (.land, 1)) (hq : pc + 1 = q) (k : GoL b L xs q i (.long (x &&& y) :: st) h) : GoL b L xs pc i (.long y :: .long x :: st) h := by
  subst hq
  intro p l e s m below meth c α cA D H locs ls C hP hS hl
  exact lv_land C.1 C.2.1 hd (k p l e s m below meth c α cA D H locs ls C hP hS hl)
theorem gl_lor {x y : Int64} (hd : decode code pc = .ok (.lor, 1)) (hq : pc + 1 = q) (k : GoL b L xs q i (.long (x ||| y) :: st) h) : GoL b L xs pc i (.long y :: .long x :: st) h := by
  subst hq
  intro p l e s m below meth c α cA D H locs ls C hP hS hl
  exact lv_lor C.1 C.2.1 hd (k p l e s m below meth c α cA D H locs ls C hP hS hl)
theorem gl_eq {x : Int32} {off : Int} {tgt : Nat} (hd : decode code pc = .ok (.if_icmp .eq off, 3)) (ht : (pc : Int) + off = (tgt : Int)) (k : GoL b L xs tgt i st h) : GoL b L xs pc i (.int x :: .int x :: st) h := by
  intro p l e s m below meth c α cA D H locs ls C hP hS hl
  exact lv_icmp_eq C.1 C.2.1 hd ht (fun _ => k p l e s m below meth c α cA D H locs ls C hP hS hl) (fun z => absurd rfl z)
theorem gl_leq {x : Int64} {off : Int} {tgt : Nat} (hd : decode code pc = .ok (.lcmp, 1)) (hd2 : decode code (pc + 1) = .ok (.ifCond .eq off, 3)) (ht : ((pc + 1 : Nat) : Int) + off = (tgt : Int)) (k : GoL b L xs tgt i st h) : GoL b L xs pc i (.long x :: .long x :: st) h := by
  intro p l e s m below meth c α cA D H locs ls C hP hS hl
  have e0 : lg_cmp x x = 0 := by
    unfold lg_cmp
    rw [if_neg (Int64.lt_irrefl), if_pos rfl]
  refine W.lcmp C.1 C.2.1 hd ?_
  rw [e0]
  exact lv_if_eq C.1 C.2.1 hd2 ht (fun _ => k p l e s m below meth c α cA D H locs ls C hP hS hl) (fun z => absurd rfl z)
theorem gl_run {p : Program} {l : Launch} {e : Env} {s : State} {m : MethodId} {args : Array Value} {below : List Frame} {meth : Method} {c : Code} {α : Nat → Nat} {cA : Nat → ClassId} {D : va_G} {H : Heap} {locs : List Loc} {ls : Array Slot} {R : Room} {Qz : State → Prop} {pc k n : Nat} {st0 rest : List Value} {a : Array Value} {Q' : Option Value → AH → Prop} {A : Nat → Prop}
    (hr : va_Run p l e R s m args below meth c H locs k n 0 0 (F0 m pc ls st0) rest (Qx α cA D Q' a) (wA α)) (hS : va_S A s.heap H locs) (hA : ∀ q, wA α q → A q)
    (kk : ∀ (v : Option Value) (h' : AH) (H1 : Heap) (locs1 : List Loc), Q' v h' → va_P D vwCl (cW α cA h') H1 → va_S A s.heap H1 locs1 → W p l e R s m args below meth c H1 locs1 k n Qz (F0 m (pc + 3) ls ((v.map (cV α)).toList ++ rest))) : W p l e R s m args below meth c H locs k n Qz (F0 m pc ls st0) := by
  intro T hT X
  obtain ⟨v, st₀, t, T', L, h0, X', hL, e1, e2, ⟨⟨v', h', hv, hq, hp, hk⟩, hz, hkp⟩, stp⟩ := hr T hT X
  cases hv
  rw [h0] at hz hkp
  obtain ⟨t2, a1, b1⟩ := kk v' h' T'.heap (locs ++ L) hq (by rw [e1]; exact hp)
    ⟨Nat.le_trans hS.1 (by rw [e1]; exact hz), fun q h1 h2 => by rw [e1, hkp q (Nat.lt_of_lt_of_le h1 hS.1) (fun z => h2 (hA q z))]; exact hS.2.1 q h1 h2, fun q hq => by
      rcases List.mem_append.mp hq with h | h
      · exact hS.2.2 q h
      · exact hA _ (hL q h)⟩ T' rfl X'
  exact ⟨t2, stp t2 a1, b1⟩
set_option maxHeartbeats 1000000 in
theorem gl_inv {d' ix np ci a nL' : Nat} {y : MethodName} {cc' : ByteArray} {ret' : Option FieldType} {As fs : List Value} {Q : Option Value → AH → Prop}
    (hd : decode code pc = .ok (.invokevirtual ix, 3)) (lk : LkV RL ix y cc' nL' ret' np ci) (hlt : d' ≤ 40) (hL : nL' ≤ 40) (hst : (st.map fun v => v.category).sum ≤ 8) (hb : a < nC) (hc : h a = .inr (ci, fs)) (hn : As.length = np) (hq : pc + 3 = q)
    (K : Cn d' y cc' nL' ret' (.ref a :: As) h Q) (kk : ∀ v h', Q v h' → GoL b L xs q i (rv v st) h') : GoL b L xs pc i (As.reverse ++ .ref a :: st) h := by
  subst hq
  intro p l e s m below meth c α cA D H locs ls C hP hS hl
  obtain ⟨hx, hbb, hr, hml, hown, ht, hX, hbl, hlk, hK, hJ, hT, hα⟩ := id C
  obtain ⟨lk0, hin, hse, T, N, hcl⟩ := lk
  have ha2 := cW_at (α := α) (cA := cA) (h := h) hb
  rw [hc] at ha2
  have hM := K l α cA D hJ
  have es : (As.reverse ++ .ref a :: st).map (cV α) = (As.map (cV α)).reverse ++ .ref (α a) :: st.map (cV α) := by simp [cV]
  rw [es]
  refine gl_run (va_runV (C := y.cls) (b := α a) (As := As.map (cV α)) (rest := st.map (cV α)) ⟨hx, hbb, hml, hown, ht⟩ hM ⟨callB_of np ht (goodIn_tW lk0.2.1) rfl rfl rfl (ht _ lk0.2.2.1) (ht _ lk0.1) lk0.2.2.2 ⟨by show d' + 1 ≤ 2048; omega, by show 8 + (nL' + 11) + 64 * d' ≤ 84000; omega⟩, ht _ hin, ht _ hse⟩
    ⟨fun a U g mk z => ⟨z.1, z.2.1, va_K.moved (u := U) (U := U.calling g mk a) (Vm.Alike.refl U.vm) z.2.2.1, z.2.2.2.blind g mk a⟩, va_recv hK hP hcl ha2, fun U hU hW => ⟨rfl, by rw [hU]; exact hP, va_K.moved hW.alike hK, hT.call hα hS hU hW⟩⟩
    rfl (by rw [List.length_map]; exact hn) hl.1 rfl (lv_room (by rw [map_cat]; exact hst)) hd ⟨Nat.le_of_ble_eq_true rfl, Nat.le_of_ble_eq_true rfl⟩) hS (fun q ⟨i, hi, e⟩ => e ▸ hα i hi) (fun v h' H1 locs1 hQ hP1 hS1 => ?_)
  rw [rv_map]
  exact kk v h' hQ p l e s m below meth c α cA D H1 locs1 ls C hP1 hS1 hl
theorem gl_tail (k : GoL b L xs 18 (i + 6) [] h) : GoL b L xs 1564 i [] h := by
  intro p l e s m below meth c α cA D H locs ls C hP hS hl
  refine lv_iinc (v := nI (i + 6)) (lv' := [(3, .int (nI (i + 6))), (0, .ref b), (1, .ref (α 0)), (2, .ref (α 69))]) C.1 C.2.1 dL_law_1564 hl (k := 3) rfl (nI_add i 6) (by decide) rfl (fun ls hl => ?_)
  refine lv_goto (tgt := 18) C.1 C.2.1 dL_law_1567 (by decide) ?_
  exact k p l e s m below meth c α cA D H locs ls C hP hS (lv_sub hl [1, 2, 3, 0] rfl)
theorem gl_end : GoL b L xs 1570 i [] h := by
  intro p l e s m below meth c α cA D H locs ls C hP hS hl
  refine lv_iconst (v := 1) C.1 C.2.1 dL_law_1570 (by decide) ?_
  refine va_forget (fun q hq => hS.2.2 q hq) ?_
  refine W.widen (k := 600000) (n := 7302250) (Nat.le_of_ble_eq_true rfl) (Nat.le_of_ble_eq_true rfl) ?_
  exact lw_ret C.1 C.2.1 C.2.2.1 C.2.2.2.2.2.2.2.2.1 dL_law_1571
theorem gl_head (hL : L ≤ 3072) (hi : i ≤ 3078) (k1 : i + 6 ≤ L → GoL b L xs 27 i [] h) : GoL b L xs 18 i [] h := by
  intro p l e s m below meth c α cA D H locs ls C hP hS hl
  obtain ⟨hx, hb, hr, hml, hown, ht, hX, hbl, hlk, hK, hJ, hT, hα⟩ := id C
  refine lv_iload_n hx hb dL_law_18 rfl (lv_at hl 3 rfl) ?_
  refine lv_aload_n hx hb dL_law_19 rfl (lv_at hl 0 rfl) ?_
  refine va_slen (A := fun q => s.heap.size ≤ q) hx hb hX hbl (Nat.not_le.mpr hbl) hS dL_law_20 ?_
  refine lv_bipush (v := nI 6) hx hb dL_law_21 (by decide) ?_
  refine lv_isub hx hb dL_law_23 ?_
  refine lv_icmp_gt (tgt := 1570) hx hb dL_law_24 (by decide) (fun _ => gl_end p l e s m below meth c α cA D H locs ls C hP hS hl) (fun z => ?_)
  refine k1 ?_ p l e s m below meth c α cA D H locs ls C hP hS hl
  rw [Int32.lt_iff_toInt_lt] at z
  have e1 : (Int32.ofNat L - nI 6).toInt = (L : Int) - (6 : Nat) := pk_sub_toInt (a := L) (b := 6) (by omega) (by decide)
  rw [e1, nI_toInt (by omega)] at z
  omega
theorem gl_sw (hL : L ≤ 3072) (hi : i + 6 ≤ L) (k : ∀ j, j < 64 → GoL b L xs 33 i [.int (nI j)] h) : GoL b L xs 27 i [] h := by
  intro p l e s m below meth c α cA D H locs ls C hP hS hl
  obtain ⟨hx, hb, hr, hml, hown, ht, hX, hbl, hlk, hK, hJ, hT, hα⟩ := id C
  refine lv_aload_n hx hb dL_law_27 rfl (lv_at hl 0 rfl) ?_
  refine lv_iload_n hx hb dL_law_28 rfl (lv_at hl 3 rfl) ?_
  refine va_sld (A := fun q => s.heap.size ≤ q) hx hb hX hbl (Nat.not_le.mpr hbl) hS (vp_in_nI (show i < L by omega) (by omega)) dL_law_29 ?_
  refine lv_bipush (v := 63) hx hb dL_law_30 (by decide) ?_
  refine lv_iand hx hb dL_law_32 ?_
  obtain ⟨j, hj, e1⟩ := pk_andE (xs (nI i).toNatClampNeg) (m := 63) 6 (by decide)
  rw [e1]
  exact k j hj p l e s m below meth c α cA D H locs ls C hP hS hl
theorem gl_in {x : Int32} {dflt lo hi off : Int} {offs : Array Int} {len tgt : Nat} (hd : decode code pc = .ok (.tableswitch dflt lo hi offs, len)) (h1 : ¬ x.toInt < lo) (h2 : ¬ hi < x.toInt) (ho : offs[(x.toInt - lo).toNat]? = some off) (ht : (pc : Int) + off = (tgt : Int)) (k : GoL b L xs tgt i st h) : GoL b L xs pc i (.int x :: st) h := by
  intro p l e s m below meth c α cA D H locs ls C hP hS hl
  exact lv_tableIn C.1 C.2.1 hd h1 h2 ho ht (k p l e s m below meth c α cA D H locs ls C hP hS hl)
theorem gl_out {x : Int32} {dflt lo hi : Int} {offs : Array Int} {len tgt : Nat} (hd : decode code pc = .ok (.tableswitch dflt lo hi offs, len)) (h1 : x.toInt < lo ∨ hi < x.toInt) (ht : (pc : Int) + dflt = (tgt : Int)) (k : GoL b L xs tgt i st h) : GoL b L xs pc i (.int x :: st) h := by
  intro p l e s m below meth c α cA D H locs ls C hP hS hl
  exact lv_tableOut C.1 C.2.1 hd h1 ht (k p l e s m below meth c α cA D H locs ls C hP hS hl)
end GL
