/-! fields, arrays, calls, returns -/
abbrev rv (v : Option Value) (st : List Value) : List Value := match v with
  | some x => x :: st
  | none => st
theorem rv_map (α : Nat → Nat) (v : Option Value) (st : List Value) : (v.map (cV α)).toList ++ st.map (cV α) = (rv v st).map (cV α) := by cases v <;> rfl
def FL (own : String) (ix ci k : Nat) : Prop := ∃ (C : String) (T : u_T) (N : Nat), vwCl[ci]? = some (C, T, N) ∧ k < N ∧ Cond.fieldLink own ix (T k).1 (T k).2.1 (T k).2.2.1 ∈ tW ∧ ∀ w ∈ u_ws C T N, w ∈ tW
def FP (own : String) (ix ci k : Nat) (ty : FieldType) : Prop := ∃ (C : String) (T : u_T) (N : Nat), vwCl[ci]? = some (C, T, N) ∧ k < N ∧ Cond.fieldLink own ix (T k).1 (T k).2.1 (T k).2.2.1 ∈ tW ∧ (∀ w ∈ u_ws C T N, w ∈ tW) ∧
  (∃ ty0 : Nat → FieldType, ∀ k, k < N → parseFieldDescriptor (T k).2.2.1 = some (ty0 k)) ∧ (∀ a, a < N → ∀ b, b < N → a ≠ b → (T a).2.1 ≠ (T b).2.1) ∧ (T k).2.2.2 = false ∧ parseFieldDescriptor (T k).2.2.1 = some ty
section RU
variable {d : Nat} {own : String} {cc : ByteArray} {nL : Nat} {ret : Option FieldType} {pc q : Nat} {lo : List (Option Value)} {st : List Value} {h : AH} {Q : Option Value → AH → Prop}
theorem go_getf {a ci ix k : Nat} {fs : List Value} {v : Value} (hd : decode cc pc = .ok (.getfield ix, 3)) (hf : FL own ix ci k) (ha : a < nC) (hc : h a = .inr (ci, fs)) (hv : fs[k]? = some v) (hq : pc + 3 = q) (kk : Go d own cc nL ret q lo (v :: st) h Q) : Go d own cc nL ret pc lo (.ref a :: st) h Q := by
  subst hq
  obtain ⟨C, T, N, hcl, hk, hlink, hin⟩ := hf
  intro p l e s m args below meth c α cA D H locs ls C0 hP hS hl
  have ha2 := cW_at (α := α) (cA := cA) (h := h) ha
  rw [hc] at ha2
  exact va_get C0.1 C0.2.1 C0.2.2.2.2.2.1 hin C0.2.2.2.2.1 C0.2.2.2.2.2.2.2.1 hP a (fs := fs.map (cV α)) ha2 hcl k hk (C0.2.2.2.2.2.1 _ hlink) (fun _ z => z) (v := cV α v) (by rw [List.getElem?_map, hv]; rfl) hd (kk p l e s m args below meth c α cA D H locs ls C0 hP hS hl)
theorem go_putf {a ci ix k : Nat} {ty : FieldType} {fs : List Value} {v : Value} (hd : decode cc pc = .ok (.putfield ix, 3)) (hf : FP own ix ci k ty) (ha : a < nC) (hc : h a = .inr (ci, fs)) (hn : ∀ α, narrow ty (cV α v) = cV α v) (hfit : ∀ α, fits ty (cV α v) = true) (hlen : k < fs.length) (hq : pc + 3 = q)
    (kk : Go d own cc nL ret q lo st (hset h a (.inr (ci, fs.set k v))) Q) : Go d own cc nL ret pc lo (v :: .ref a :: st) h Q := by
  subst hq
  obtain ⟨C, T, N, hcl, hk, hlink, hin, ⟨ty0, hty⟩, hnm, hfin, hpd⟩ := hf
  intro p l e s m args below meth c α cA D H locs ls C0 hP hS hl
  have ha2 := cW_at (α := α) (cA := cA) (h := h) ha
  rw [hc] at ha2
  have hj := C0.2.2.2.2.2.2.2.2.1
  refine va_put C0.1 C0.2.1 C0.2.2.2.2.2.1 hin ty0 hty hnm C0.2.2.2.2.1 C0.2.2.2.2.2.2.2.1 hP (cW_D hj) hS a (fs := fs.map (cV α)) ha2 hcl k hk (C0.2.2.2.2.2.1 _ hlink) (fun _ z => z) hfin hpd (hn α) (hfit α) (by rw [List.length_map]; exact hlen) hd (fun H1 locs1 hP1 hD1 hS1 => ?_)
  have e1 : (cW α cA h).set a (α a, .inr (ci, (fs.map (cV α)).set k (cV α v))) = cW α cA (hset h a (.inr (ci, fs.set k v))) := by
    rw [← cW_set ha]
    simp [cE, List.map_set]
  rw [e1] at hP1
  exact kk p l e s m args below meth c α cA D H1 locs1 ls C0 hP1 hS1 hl
theorem go_iald {a n i : Nat} {f : Nat → Int32} (hd : decode cc pc = .ok (.iaload, 1)) (ha : a < nC) (hc : h a = .inl (0, n, .inl f)) (hn : n < 2 ^ 31) (hi : i < n) (hq : pc + 1 = q) (kk : Go d own cc nL ret q lo (.int (f i) :: st) h Q) : Go d own cc nL ret pc lo (.int (nI i) :: .ref a :: st) h Q := by
  subst hq
  intro p l e s m args below meth c α cA D H locs ls C0 hP hS hl
  have ha2 := cW_at (α := α) (cA := cA) (h := h) ha
  rw [hc] at ha2
  refine va_iald C0.1 C0.2.1 C0.2.2.2.2.2.2.2.1 hP a 0 (cA := cA 0) (n := n) (f := f) ha2 rfl (vp_in_nI hi hn) hd ?_
  rw [nI_clamp (by omega)]
  exact kk p l e s m args below meth c α cA D H locs ls C0 hP hS hl
theorem go_iast {a n i : Nat} {f : Nat → Int32} {x : Int32} (hd : decode cc pc = .ok (.iastore, 1)) (ha : a < nC) (hc : h a = .inl (0, n, .inl f)) (hn : n < 2 ^ 31) (hi : i < n) (hq : pc + 1 = q) (kk : Go d own cc nL ret q lo st (hset h a (.inl (0, n, .inl (upd f i x)))) Q) : Go d own cc nL ret pc lo (.int x :: .int (nI i) :: .ref a :: st) h Q := by
  subst hq
  intro p l e s m args below meth c α cA D H locs ls C0 hP hS hl
  have ha2 := cW_at (α := α) (cA := cA) (h := h) ha
  rw [hc] at ha2
  refine va_iast C0.1 C0.2.1 C0.2.2.2.2.2.2.2.1 hP (cW_D C0.2.2.2.2.2.2.2.2.1) hS a 0 (cA := cA 0) (n := n) (f := f) ha2 rfl (vp_in_nI hi hn) hd (fun H1 locs1 hP1 hD1 hS1 => ?_)
  have e1 : (cW α cA h).set a (α a, .inl (cA 0, n, .inl (upd f (nI i).toNatClampNeg x))) = cW α cA (hset h a (.inl (0, n, .inl (upd f i x)))) := by
    rw [← cW_set ha, nI_clamp (by omega)]
    rfl
  rw [e1] at hP1
  exact kk p l e s m args below meth c α cA D H1 locs1 ls C0 hP1 hS1 hl
theorem go_lald {a n i : Nat} {f : Nat → Int64} (hd : decode cc pc = .ok (.laload, 1)) (ha : a < nC) (hc : h a = .inl (1, n, .inr (.inl f))) (hn : n < 2 ^ 31) (hi : i < n) (hq : pc + 1 = q) (kk : Go d own cc nL ret q lo (.long (f i) :: st) h Q) : Go d own cc nL ret pc lo (.int (nI i) :: .ref a :: st) h Q := by
  subst hq
  intro p l e s m args below meth c α cA D H locs ls C0 hP hS hl
  have ha2 := cW_at (α := α) (cA := cA) (h := h) ha
  rw [hc] at ha2
  refine va_lald C0.1 C0.2.1 C0.2.2.2.2.2.2.2.1 hP a 1 (cA := cA 1) (n := n) (f := f) ha2 rfl (vp_in_nI hi hn) hd ?_
  rw [nI_clamp (by omega)]
  exact kk p l e s m args below meth c α cA D H locs ls C0 hP hS hl
theorem go_last {a n i : Nat} {f : Nat → Int64} {x : Int64} (hd : decode cc pc = .ok (.lastore, 1)) (ha : a < nC) (hc : h a = .inl (1, n, .inr (.inl f))) (hn : n < 2 ^ 31) (hi : i < n) (hq : pc + 1 = q) (kk : Go d own cc nL ret q lo st (hset h a (.inl (1, n, .inr (.inl (vp_updL f i x))))) Q) : Go d own cc nL ret pc lo (.long x :: .int (nI i) :: .ref a :: st) h Q := by
  subst hq
  intro p l e s m args below meth c α cA D H locs ls C0 hP hS hl
  have ha2 := cW_at (α := α) (cA := cA) (h := h) ha
  rw [hc] at ha2
  refine va_last C0.1 C0.2.1 C0.2.2.2.2.2.2.2.1 hP (cW_D C0.2.2.2.2.2.2.2.2.1) hS a 1 (cA := cA 1) (n := n) (f := f) ha2 rfl (vp_in_nI hi hn) hd (fun H1 locs1 hP1 hD1 hS1 => ?_)
  have e1 : (cW α cA h).set a (α a, .inl (cA 1, n, .inr (.inl (vp_updL f (nI i).toNatClampNeg x)))) = cW α cA (hset h a (.inl (1, n, .inr (.inl (vp_updL f i x))))) := by
    rw [← cW_set ha, nI_clamp (by omega)]
    rfl
  rw [e1] at hP1
  exact kk p l e s m args below meth c α cA D H1 locs1 ls C0 hP1 hS1 hl
theorem go_zald {a n i : Nat} {f : Nat → Int32} (hd : decode cc pc = .ok (.baload, 1)) (ha : a < nC) (hc : h a = .inl (2, n, .inl f)) (hn : n < 2 ^ 31) (hi : i < n) (hq : pc + 1 = q) (kk : Go d own cc nL ret q lo (.int (f i) :: st) h Q) : Go d own cc nL ret pc lo (.int (nI i) :: .ref a :: st) h Q := by
  subst hq
  intro p l e s m args below meth c α cA D H locs ls C0 hP hS hl
  have ha2 := cW_at (α := α) (cA := cA) (h := h) ha
  rw [hc] at ha2
  refine va_zald C0.1 C0.2.1 C0.2.2.2.2.2.2.2.1 hP a 2 (cA := cA 2) (n := n) (f := f) ha2 rfl (vp_in_nI hi hn) hd ?_
  rw [nI_clamp (by omega)]
  exact kk p l e s m args below meth c α cA D H locs ls C0 hP hS hl
theorem go_zast {a n i : Nat} {f : Nat → Int32} {x : Int32} (hd : decode cc pc = .ok (.bastore, 1)) (ha : a < nC) (hc : h a = .inl (2, n, .inl f)) (hn : n < 2 ^ 31) (hi : i < n) (hx : vp_nar .boolean x = x) (hq : pc + 1 = q) (kk : Go d own cc nL ret q lo st (hset h a (.inl (2, n, .inl (upd f i x)))) Q) : Go d own cc nL ret pc lo (.int x :: .int (nI i) :: .ref a :: st) h Q := by
  subst hq
  intro p l e s m args below meth c α cA D H locs ls C0 hP hS hl
  have ha2 := cW_at (α := α) (cA := cA) (h := h) ha
  rw [hc] at ha2
  refine va_zast C0.1 C0.2.1 C0.2.2.2.2.2.2.2.1 hP (cW_D C0.2.2.2.2.2.2.2.2.1) hS a 2 (cA := cA 2) (n := n) (f := f) ha2 rfl (vp_in_nI hi hn) hd (fun H1 locs1 hP1 hD1 hS1 => ?_)
  have e1 : (cW α cA h).set a (α a, .inl (cA 2, n, .inl (upd f (nI i).toNatClampNeg (vp_nar .boolean x)))) = cW α cA (hset h a (.inl (2, n, .inl (upd f i x)))) := by
    rw [← cW_set ha, nI_clamp (by omega), hx]
    rfl
  rw [e1] at hP1
  exact kk p l e s m args below meth c α cA D H1 locs1 ls C0 hP1 hS1 hl
theorem go_aald {a n i b : Nat} {f : Nat → Option Nat} (hd : decode cc pc = .ok (.aaload, 1)) (ha : a < nC) (hc : h a = .inl (3, n, .inr (.inr (.inr (.inr f))))) (hn : n < 2 ^ 31) (hi : i < n) (hf : f i = some b) (hq : pc + 1 = q) (kk : Go d own cc nL ret q lo (.ref b :: st) h Q) : Go d own cc nL ret pc lo (.int (nI i) :: .ref a :: st) h Q := by
  subst hq
  intro p l e s m args below meth c α cA D H locs ls C0 hP hS hl
  have ha2 := cW_at (α := α) (cA := cA) (h := h) ha
  rw [hc] at ha2
  refine va_aldq C0.1 C0.2.1 C0.2.2.2.2.2.2.2.1 hP a 3 (cA := cA 3) (n := n) (f := fun i => (f i).map α) ha2 rfl (vp_in_nI hi hn) hd ?_
  rw [nI_clamp (by omega), hf]
  exact kk p l e s m args below meth c α cA D H locs ls C0 hP hS hl
/-! returns -/
theorem go_ret0 (hd : decode cc pc = .ok (.return_, 1)) (hr : ret = none) (kk : Q none h) : Go d own cc nL ret pc lo [] h Q := by
  intro p l e s m args below meth c α cA D H locs ls C0 hP hS hl
  exact W.vret C0.1 C0.2.1 (C0.2.2.2.1.trans hr) (fun t ht hW => ⟨⟨none, h, rfl, kk, by rw [ht]; exact hP, va_K.moved hW.alike C0.2.2.2.2.2.2.2.1⟩, hS.F ht⟩) hS.2.2 hd C0.2.2.2.2.2.2.1
theorem go_iret {x : Int32} (hd : decode cc pc = .ok (.ireturn, 1)) (hr : ret = some .int) (kk : Q (some (.int x)) h) : Go d own cc nL ret pc lo [.int x] h Q := by
  intro p l e s m args below meth c α cA D H locs ls C0 hP hS hl
  exact W.iret C0.1 C0.2.1 (C0.2.2.2.1.trans hr) (fun t ht hW => ⟨⟨some (.int x), h, rfl, kk, by rw [ht]; exact hP, va_K.moved hW.alike C0.2.2.2.2.2.2.2.1⟩, hS.F ht⟩) hS.2.2 hd C0.2.2.2.2.2.2.1
theorem go_zret {x : Int32} {ty : FieldType} (hd : decode cc pc = .ok (.ireturn, 1)) (hr : ret = some ty) (hx : narrow ty (.int x) = .int x) (kk : Q (some (.int x)) h) : Go d own cc nL ret pc lo [.int x] h Q := by
  intro p l e s m args below meth c α cA D H locs ls C0 hP hS hl
  exact W.zret C0.1 C0.2.1 (C0.2.2.2.1.trans hr) hx (fun t ht hW => ⟨⟨some (.int x), h, rfl, kk, by rw [ht]; exact hP, va_K.moved hW.alike C0.2.2.2.2.2.2.2.1⟩, hS.F ht⟩) hS.2.2 hd C0.2.2.2.2.2.2.1
theorem go_lret {x : Int64} (hd : decode cc pc = .ok (.lreturn, 1)) (hr : ret = some .long) (kk : Q (some (.long x)) h) : Go d own cc nL ret pc lo [.long x] h Q := by
  intro p l e s m args below meth c α cA D H locs ls C0 hP hS hl
  exact W.lret C0.1 C0.2.1 (C0.2.2.2.1.trans hr) (fun t ht hW => ⟨⟨some (.long x), h, rfl, kk, by rw [ht]; exact hP, va_K.moved hW.alike C0.2.2.2.2.2.2.2.1⟩, hS.F ht⟩) hS.2.2 hd C0.2.2.2.2.2.2.1
theorem go_aret {x : Nat} {n : String} (hd : decode cc pc = .ok (.areturn, 1)) (hr : ret = some (.object n)) (kk : Q (some (.ref x)) h) : Go d own cc nL ret pc lo [.ref x] h Q := by
  intro p l e s m args below meth c α cA D H locs ls C0 hP hS hl
  exact W.aret C0.1 C0.2.1 (C0.2.2.2.1.trans hr) (Or.inl ⟨n, rfl⟩) (Or.inr ⟨α x, rfl⟩) (fun t ht hW => ⟨⟨some (.ref x), h, rfl, kk, by rw [ht]; exact hP, va_K.moved hW.alike C0.2.2.2.2.2.2.2.1⟩, hS.F ht⟩) hS.2.2 hd C0.2.2.2.2.2.2.1
theorem go_forget {lo' : List (Option Value)} (hk : ∀ (i : Nat) (v : Value), lo'[i]? = some (some v) → lo[i]? = some (some v)) (kk : Go d own cc nL ret pc lo' st h Q) : Go d own cc nL ret pc lo st h Q := by
  intro p l e s m args below meth c α cA D H locs ls C0 hP hS hl
  exact kk p l e s m args below meth c α cA D H locs ls C0 hP hS (hl.forget hk)
end RU
/-! a method's contract out of its walk -/
theorem ST.call {α : Nat → Nat} {s U : State} {H : Heap} {locs : List Loc} (h : ST α s) (hS : va_S (wA α) s.heap H locs) (hU : U.heap = H) (hW : s.WarmedH U.vm) : ST α U := by
  obtain ⟨h1, h2, h3, h4⟩ := h
  refine ⟨?_, fun j hj => vk_R.warm hW (h2 j hj), ?_, ?_⟩
  · rw [hU]
    exact (h1.kept hS.2.1).moved hW.alike
  · rw [hU]
    exact (h3.kept hS.2.1).moved hW.alike
  · rw [hU]
    exact h4.imp (fun h => (h.kept hS.2.1).moved hW.alike) (fun h => (h.kept hS.2.1).moved hW.alike)
theorem ST.blind {α : Nat → Nat} {U : State} (g : JFrame) (mk : MethodId) (a : Array Value) (h : ST α U) : ST α (U.calling g mk a) := by
  obtain ⟨h1, h2, h3, h4⟩ := h
  exact ⟨h1.moved (u := U) (U := U.calling g mk a) (Vm.Alike.refl U.vm), fun j hj => vk_R.same (u := U) (U := U.calling g mk a) rfl (h2 j hj), h3.moved (u := U) (U := U.calling g mk a) (Vm.Alike.refl U.vm), h4.imp (fun h => h.moved (u := U) (U := U.calling g mk a) (Vm.Alike.refl U.vm)) (fun h => h.moved (u := U) (U := U.calling g mk a) (Vm.Alike.refl U.vm))⟩
set_option maxHeartbeats 1000000 in
theorem cn_of {d : Nat} {y : MethodName} {own : String} {cc : ByteArray} {nL : Nat} {ret : Option FieldType} {av : List Value} {h : AH} {Q : Option Value → AH → Prop} {lo : List (Option Value)} (k : Nat) (hlo : loA av ++ List.replicate k none = lo) (hy : plainName y.cls = true) (ho : y.cls = own) (hk : slN av ≤ nL)
    (G : Go d own cc nL ret 0 lo [] h Q) : Cn d y cc nL ret av h Q := by
  subst ho
  intro l α cA D hj
  refine Met.ofW (cc := cc) (maxL := nL) (ret := ret) hy rfl ?_
  intro p e s m args below meth c s₁ B hml hv
  obtain ⟨rfl, hP, hK, hS⟩ := hv
  have hts := atoms_spec (ws := Cond.code y cc nL ret :: tW) B.pre
  have hown : s.vm.findClass y.cls = some m.cls := findClass_of_methodNamed B.named
  have hen := lv_entry (av.map (cV α)) (n := nL) (by rw [slN_len, slN_map]; exact hk)
  rw [lg_entry_eq]
  generalize (lg_sl (av.map (cV α)) ++ List.replicate (nL - (lg_sl (av.map (cV α))).length) Slot.unset).toArray = ls at hen ⊢
  refine G p l e s m _ below meth c α cA D s.heap [] ls ⟨B.exec, B.bytes, hml, B.returns, hown, fun w hw => hts w (List.mem_cons_of_mem _ hw), B.notSynchronized, hK, hj, hS⟩ hP va_S.rf ⟨hen.1, hen.2.1, fun i v hi => ?_⟩
  refine hen.2.2 (i, cV α v) ?_
  rw [← hlo] at hi
  have hi2 : (loA av)[i]? = some (some v) := by
    rw [List.getElem?_append] at hi
    split at hi
    · exact hi
    · rw [List.getElem?_replicate] at hi
      split at hi <;> cases hi
  have := loA_args α av 0 i v hi2
  rwa [Nat.zero_add] at this
/-! calls -/
def LkB (own : String) (ix : Nat) (y : MethodName) (cc : ByteArray) (nL : Nat) (ret : Option FieldType) (np : Nat) : Prop := Cond.methodLink own ix y ∈ tW ∧ Cond.code y cc nL ret ∈ tW ∧ Cond.initialized y.cls ∈ tW ∧ (y.cls ≠ "java/lang/invoke/MethodHandle" ∧ y.cls ≠ "java/lang/invoke/VarHandle" ∧ (parseMethodDescriptor y.desc).map (fun d => d.parameters.length) = some np)
def LkV (own : String) (ix : Nat) (y : MethodName) (cc : ByteArray) (nL : Nat) (ret : Option FieldType) (np ci : Nat) : Prop := LkB own ix y cc nL ret np ∧ Cond.instanceMethod y ∈ tW ∧ Cond.selects y.cls y y ∈ tW ∧ ∃ (T : u_T) (N : Nat), vwCl[ci]? = some (y.cls, T, N)
def LkS (own : String) (ix : Nat) (y : MethodName) (cc : ByteArray) (nL : Nat) (ret : Option FieldType) (np : Nat) : Prop := LkB own ix y cc nL ret np ∧ Cond.static y ∈ tW
theorem map_cat (α : Nat → Nat) (st : List Value) : ((st.map (cV α)).map fun v => v.category) = st.map fun v => v.category := by
  rw [List.map_map]
  exact List.map_congr_left (fun v _ => cV_cat α v)
theorem callB_tW {R : Room} {s : State} {args : Array Value} {own : String} {ix : Nat} {y : MethodName} {cc : ByteArray} {nL : Nat} {ret : Option FieldType} {np d d' : Nat} (hR : R = rmD d) (ht : ∀ w ∈ tW, w.before args s = true) (lk : LkB own ix y cc nL ret np) (hlt : d' < d) (hL : nL ≤ 40) :
    CallB R s args own ix y cc nL ret (Cond.code y cc nL ret :: tW) (rmD d') 0 0 np :=
  callB_of np ht (goodIn_tW lk.2.1) rfl rfl rfl (ht _ lk.2.2.1) (ht _ lk.1) lk.2.2.2 (by rw [hR]; exact ⟨hlt, by show 8 + (nL + 11) + 64 * d' ≤ 64 * d; omega⟩)
theorem go_run {p : Program} {l : Launch} {e : Env} {s : State} {m : MethodId} {args : Array Value} {below : List Frame} {meth : Method} {c : Code} {α : Nat → Nat} {cA : Nat → ClassId} {D : va_G} {H : Heap} {locs : List Loc} {ls : Array Slot} {R : Room} {Qz : State → Prop} {pc : Nat} {st0 rest : List Value} {a : Array Value} {Q' : Option Value → AH → Prop}
    (hr : va_Run p l e R s m args below meth c H locs 0 0 0 0 (F0 m pc ls st0) rest (Qx α cA D Q' a) (wA α)) (hS : va_S (wA α) s.heap H locs)
    (kk : ∀ (v : Option Value) (h' : AH) (H1 : Heap) (locs1 : List Loc), Q' v h' → va_P D vwCl (cW α cA h') H1 → va_S (wA α) s.heap H1 locs1 → W p l e R s m args below meth c H1 locs1 0 0 Qz (F0 m (pc + 3) ls ((v.map (cV α)).toList ++ rest))) : W p l e R s m args below meth c H locs 0 0 Qz (F0 m pc ls st0) := by
  intro T hT X
  obtain ⟨v, st₀, t, T', L, h0, X', hL, e1, e2, ⟨⟨v', h', hv, hq, hp, hk⟩, hz, hkp⟩, stp⟩ := hr T hT X
  cases hv
  rw [h0] at hz hkp
  obtain ⟨t2, a1, b1⟩ := kk v' h' T'.heap (locs ++ L) hq (by rw [e1]; exact hp)
    ⟨Nat.le_trans hS.1 (by rw [e1]; exact hz), fun q h1 h2 => by rw [e1, hkp q (Nat.lt_of_lt_of_le h1 hS.1) h2]; exact hS.2.1 q h1 h2, fun q hq => by
      rcases List.mem_append.mp hq with h | h
      · exact hS.2.2 q h
      · exact hL q h⟩ T' rfl X'
  exact ⟨t2, stp t2 a1, b1⟩
set_option maxHeartbeats 1000000 in
theorem go_invV {d : Nat} {own : String} {cc : ByteArray} {nL : Nat} {ret : Option FieldType} {pc q : Nat} {lo : List (Option Value)} {st : List Value} {h : AH} {Q : Option Value → AH → Prop} {d' ix np ci b nL' : Nat} {y : MethodName} {cc' : ByteArray} {ret' : Option FieldType} {As fs : List Value}
    (hd : decode cc pc = .ok (.invokevirtual ix, 3)) (lk : LkV own ix y cc' nL' ret' np ci) (hlt : d' < d) (hL : nL' ≤ 40) (hst : (st.map fun v => v.category).sum ≤ 8) (hb : b < nC) (hc : h b = .inr (ci, fs)) (hn : As.length = np) (hq : pc + 3 = q)
    (kk : Cn d' y cc' nL' ret' (.ref b :: As) h (fun v h' => Go d own cc nL ret q lo (rv v st) h' Q)) : Go d own cc nL ret pc lo (As.reverse ++ .ref b :: st) h Q := by
  subst hq
  intro p l e s m args below meth c α cA D H locs ls C0 hP hS hl
  obtain ⟨lk0, hin, hse, T, N, hcl⟩ := lk
  have ha2 := cW_at (α := α) (cA := cA) (h := h) hb
  rw [hc] at ha2
  have hK := C0.2.2.2.2.2.2.2.1
  have hM := kk l α cA D C0.2.2.2.2.2.2.2.2.1
  have es : (As.reverse ++ .ref b :: st).map (cV α) = (As.map (cV α)).reverse ++ .ref (α b) :: st.map (cV α) := by simp [cV]
  rw [es]
  refine go_run (va_runV (C := y.cls) (b := α b) (As := As.map (cV α)) (rest := st.map (cV α)) ⟨C0.1, C0.2.1, C0.2.2.1, C0.2.2.2.2.1, C0.2.2.2.2.2.1⟩ hM ⟨callB_tW rfl C0.2.2.2.2.2.1 lk0 hlt hL, C0.2.2.2.2.2.1 _ hin, C0.2.2.2.2.2.1 _ hse⟩
    ⟨fun a U g mk z => ⟨z.1, z.2.1, va_K.moved (u := U) (U := U.calling g mk a) (Vm.Alike.refl U.vm) z.2.2.1, z.2.2.2.blind g mk a⟩, va_recv hK hP hcl ha2, fun U hU hW => ⟨rfl, by rw [hU]; exact hP, va_K.moved hW.alike hK, C0.2.2.2.2.2.2.2.2.2.call hS hU hW⟩⟩
    rfl (by rw [List.length_map]; exact hn) hl.1 rfl (lv_room (by rw [map_cat]; exact hst)) hd ⟨Nat.le_refl _, Nat.le_refl _⟩) hS (fun v h' H1 locs1 hQ hP1 hS1 => ?_)
  rw [rv_map]
  exact hQ p l e s m args below meth c α cA D H1 locs1 ls C0 hP1 hS1 hl
set_option maxHeartbeats 1000000 in
theorem go_invS {d : Nat} {own : String} {cc : ByteArray} {nL : Nat} {ret : Option FieldType} {pc q : Nat} {lo : List (Option Value)} {st : List Value} {h : AH} {Q : Option Value → AH → Prop} {d' ix np nL' : Nat} {y : MethodName} {cc' : ByteArray} {ret' : Option FieldType} {As : List Value}
    (hd : decode cc pc = .ok (.invokestatic ix, 3)) (lk : LkS own ix y cc' nL' ret' np) (hlt : d' < d) (hL : nL' ≤ 40) (hst : (st.map fun v => v.category).sum ≤ 8) (hn : As.length = np) (hq : pc + 3 = q)
    (kk : Cn d' y cc' nL' ret' As h (fun v h' => Go d own cc nL ret q lo (rv v st) h' Q)) : Go d own cc nL ret pc lo (As.reverse ++ st) h Q := by
  subst hq
  intro p l e s m args below meth c α cA D H locs ls C0 hP hS hl
  obtain ⟨lk0, hstt⟩ := lk
  have hK := C0.2.2.2.2.2.2.2.1
  have hM := kk l α cA D C0.2.2.2.2.2.2.2.2.1
  have es : (As.reverse ++ st).map (cV α) = (As.map (cV α)).reverse ++ st.map (cV α) := by simp
  rw [es]
  refine go_run (va_runS (As := As.map (cV α)) (rest := st.map (cV α)) ⟨C0.1, C0.2.1, C0.2.2.1, C0.2.2.2.2.1, C0.2.2.2.2.2.1⟩ hM ⟨callB_tW rfl C0.2.2.2.2.2.1 lk0 hlt hL, C0.2.2.2.2.2.1 _ hstt⟩
    ⟨fun a U g mk z => ⟨z.1, z.2.1, va_K.moved (u := U) (U := U.calling g mk a) (Vm.Alike.refl U.vm) z.2.2.1, z.2.2.2.blind g mk a⟩, fun U hU hW => ⟨rfl, by rw [hU]; exact hP, va_K.moved hW.alike hK, C0.2.2.2.2.2.2.2.2.2.call hS hU hW⟩⟩
    rfl (by rw [List.length_map]; exact hn) hl.1 rfl (lv_room (by rw [map_cat]; exact hst)) hd ⟨Nat.le_refl _, Nat.le_refl _⟩) hS (fun v h' H1 locs1 hQ hP1 hS1 => ?_)
  rw [rv_map]
  exact hQ p l e s m args below meth c α cA D H1 locs1 ls C0 hP1 hS1 hl
