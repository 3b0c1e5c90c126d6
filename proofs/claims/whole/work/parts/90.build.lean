/-! CONSTRUCTORS: a world of cells that grows -/
def rmN (d mc ms : Nat) : Room := { frames := d, cells := mc, slots := ms, locals := 64 * d }
def NB (U : State) : Prop := va_AO "SproutCoins$Sheet" U ∧ va_Nw (.methodLinkNest RX3 27 yX2_init RX3) U ∧ va_Nw (.methodLinkNest RX3 38 yX1_init RX3) U
theorem NB.warm {s U : State} (hW : s.WarmedH U.vm) (h : NB s) : NB U := ⟨h.1.moved hW.alike, va_Nw.warmM hW h.2.1, va_Nw.warmM hW h.2.2⟩
theorem NB.blind {U : State} (g : JFrame) (mk : MethodId) (a : Array Value) (h : NB U) : NB (U.calling g mk a) := ⟨h.1.moved (u := U) (U := U.calling g mk a) (Vm.Alike.refl U.vm), va_Nw.same rfl (u := U) (U := U.calling g mk a) rfl h.2.1, va_Nw.same rfl (u := U) (U := U.calling g mk a) rfl h.2.2⟩
def Cb (own : String) (cc : ByteArray) (nL : Nat) (p : Program) (s : State) (m : MethodId) (args : Array Value) (meth : Method) (c : Code) (D : va_G) (cA : Nat → ClassId) (A : Nat → Prop) : Prop :=
  p.tables.exec = Jvm.exec ∧ c.code = cc ∧ c.maxLocals = nL ∧ meth.sig.returnType = none ∧ s.vm.findClass own = some m.cls ∧ (∀ w ∈ tW, w.before args s = true) ∧ meth.locks = false ∧ meth.name = "<init>" ∧ va_K D vwCl (tyC cA) s ∧ (∀ q, s.heap.size ≤ q → A q) ∧ NB s
def Qe (A : Nat → Prop) (D : va_G) (cA : Nat → ClassId) (F : va_W → Prop) : Array Value → State → Outcome → State → Prop := va_Qv (S := va_W) F (fun w t => va_P D vwCl w t.heap ∧ va_K D vwCl (tyC cA) t ∧ va_D A w) A
def Bo (d mc ms : Nat) (own : String) (cc : ByteArray) (nL : Nat) (cA : Nat → ClassId) (F : va_W → Prop) (pc : Nat) (lo : List (Option Value)) (st : List Value) (ws : va_W) (k n : Nat) : Prop :=
  ∀ (p : Program) (l : Launch) (e : Env) (s : State) (m : MethodId) (args : Array Value) (below : List Frame) (meth : Method) (c : Code) (A : Nat → Prop) (D : va_G) (H : Heap) (locs : List Loc) (ls : Array Slot),
    Cb own cc nL p s m args meth c D cA A → va_P D vwCl ws H → va_D A ws → va_S A s.heap H locs → LO id ls nL lo →
    W p l e (rmN d mc ms) s m args below meth c H locs k n (MQ below (Qe A D cA F) args s mc ms A) (F0 m pc ls st)
/-- a constructor's contract: the object's cell becomes the world w with F -/
def Ci (d mc ms : Nat) (y : MethodName) (cc : ByteArray) (nL ci : Nat) (fs : List Value) (F : (Nat → ClassId) → Nat → va_W → Prop) : Prop :=
  ∀ (l : Launch) (D : va_G) (cA : Nat → ClassId) (h0 sz : Nat), Met l y (Cond.code y cc nL none :: tW) (rmN d mc ms)
    (fun v U => v = #[.ref h0] ∧ U.heap.size = sz ∧ va_P D vwCl [(h0, .inr (ci, fs))] U.heap ∧ va_K D vwCl (tyC cA) U ∧ va_D (fun _ => True) [(h0, .inr (ci, fs))] ∧ NB U)
    (Qe (va_A [(h0, .inr (ci, fs))] sz) D cA (F cA h0)) mc ms (va_A [(h0, .inr (ci, fs))] sz)
theorem ci_of {d mc ms : Nat} {y : MethodName} {cc : ByteArray} {nL ci : Nat} {fs : List Value} {F : (Nat → ClassId) → Nat → va_W → Prop} {own : String} (hy : plainName y.cls = true) (ho : y.cls = own) (hn : y.name = "<init>") (hk : 1 ≤ nL)
    (G : ∀ cA h0, Bo d mc ms own cc nL cA (F cA h0) 0 (some (.ref h0) :: List.replicate (nL - 1) none) [] [(h0, .inr (ci, fs))] 0 0) : Ci d mc ms y cc nL ci fs F := by
  subst ho
  intro l D cA h0 sz
  refine Met.ofW (cc := cc) (maxL := nL) (ret := none) hy rfl ?_
  intro p e s m args below meth c s₁ B hml hv
  obtain ⟨rfl, hsz, hP, hK, hD0, hN⟩ := hv
  have hts := atoms_spec (ws := Cond.code y cc nL none :: tW) B.pre
  have hown : s.vm.findClass y.cls = some m.cls := findClass_of_methodNamed B.named
  have hin : meth.name = "<init>" := (name_of_methodNamed B.named B.method).1.trans hn
  subst hsz
  have hD := hD0.self (sz := s.heap.size)
  have hen := lv_entry [Value.ref h0] (n := nL) hk
  rw [show (#[Value.ref h0] : Array Value) = ([Value.ref h0] : List Value).toArray from rfl, lg_entry_eq]
  generalize (lg_sl [Value.ref h0] ++ List.replicate (nL - (lg_sl [Value.ref h0]).length) Slot.unset).toArray = ls at hen ⊢
  refine G cA h0 p l e s m _ below meth c _ D s.heap [] ls ⟨B.exec, B.bytes, hml, B.returns, hown, fun w hw => hts w (List.mem_cons_of_mem _ hw), B.notSynchronized, hin, hK, fun q h => Or.inr h, hN⟩ hP hD va_S.rf ⟨hen.1, hen.2.1, fun i v hi => ?_⟩
  match i, hi with
  | 0, hi =>
    cases hi
    exact hen.2.2 (0, .ref h0) List.mem_cons_self
  | i + 1, hi =>
    have hi2 : (List.replicate (nL - 1) (none : Option Value))[i]? = some (some v) := hi
    rw [List.getElem?_replicate] at hi2
    split at hi2 <;> cases hi2
section BO
variable {d mc ms : Nat} {own : String} {cc : ByteArray} {nL : Nat} {cA : Nat → ClassId} {F : va_W → Prop} {pc q : Nat} {lo : List (Option Value)} {st : List Value} {ws : va_W} {k n : Nat}
theorem bo_aload0 {x : Nat} {r : List (Option Value)} (hd : decode cc pc = .ok (.aload_n 0, 1)) (hq : pc + 1 = q) (kk : Bo d mc ms own cc nL cA F q (some (.ref x) :: r) (.ref x :: st) ws k n) : Bo d mc ms own cc nL cA F pc (some (.ref x) :: r) st ws k n := by
  subst hq
  intro p l e s m args below meth c A D H locs ls C hP hD hS hl
  exact lv_aload_n C.1 C.2.1 hd rfl (hl.2.2 0 (.ref x) rfl) (kk p l e s m args below meth c A D H locs ls C hP hD hS hl)
theorem bo_iload1 {a0 : Option Value} {x : Int32} {r : List (Option Value)} (hd : decode cc pc = .ok (.iload_n 1, 1)) (hq : pc + 1 = q) (kk : Bo d mc ms own cc nL cA F q (a0 :: some (.int x) :: r) (.int x :: st) ws k n) : Bo d mc ms own cc nL cA F pc (a0 :: some (.int x) :: r) st ws k n := by
  subst hq
  intro p l e s m args below meth c A D H locs ls C hP hD hS hl
  exact lv_iload_n C.1 C.2.1 hd rfl (hl.2.2 1 (.int x) rfl) (kk p l e s m args below meth c A D H locs ls C hP hD hS hl)
theorem bo_istore1 {a0 a1 : Option Value} {x : Int32} {r : List (Option Value)} (hd : decode cc pc = .ok (.istore_n 1, 1)) (hp : okp a0 = true) (hn : 1 < nL) (hq : pc + 1 = q) (kk : Bo d mc ms own cc nL cA F q (a0 :: some (.int x) :: r) st ws k n) : Bo d mc ms own cc nL cA F pc (a0 :: a1 :: r) (.int x :: st) ws k n := by
  subst hq
  intro p l e s m args below meth c A D H locs ls C hP hD hS hl
  exact lv_istore_n C.1 C.2.1 hd rfl (LO.pairs hl) hn rfl (fun ls hl2 => kk p l e s m args below meth c A D H locs ls C hP hD hS (LO.of1 (v := .int x) hl2 (fun w _ hw => by have hw2 : a0 = some w := Option.some.inj hw; rw [← hw2]; exact hp)))
theorem bo_iinc1 {a0 : Option Value} {x : Nat} {r : List (Option Value)} (hd : decode cc pc = .ok (.iinc 1 (1 : Nat), 3)) (hp : okp a0 = true) (hn : 1 < nL) (hq : pc + 3 = q) (kk : Bo d mc ms own cc nL cA F q (a0 :: some (.int (nI (x + 1))) :: r) st ws k n) : Bo d mc ms own cc nL cA F pc (a0 :: some (.int (nI x)) :: r) st ws k n := by
  subst hq
  intro p l e s m args below meth c A D H locs ls C hP hD hS hl
  obtain ⟨kx, hkk⟩ := List.getElem?_of_mem (lp_mem (lo := (a0 :: some (.int (nI x)) :: r)) (α := id) (j := 1) (w := .int (nI x)) rfl)
  exact lv_iinc C.1 C.2.1 hd (LO.pairs hl) hkk (nI_add x 1) hn rfl (fun ls hl2 => kk p l e s m args below meth c A D H locs ls C hP hD hS (LO.of1 (v := .int (nI (x + 1))) hl2 (fun w _ hw => by have hw2 : a0 = some w := Option.some.inj hw; rw [← hw2]; exact hp)))
theorem bo_iconst {i : Int} {v : Int32} (hd : decode cc pc = .ok (.iconst i, 1)) (hv : Int32.ofInt i = v) (hq : pc + 1 = q) (kk : Bo d mc ms own cc nL cA F q lo (.int v :: st) ws k n) : Bo d mc ms own cc nL cA F pc lo st ws k n := by
  subst hq
  intro p l e s m args below meth c A D H locs ls C hP hD hS hl
  exact lv_iconst C.1 C.2.1 hd hv (kk p l e s m args below meth c A D H locs ls C hP hD hS hl)
theorem bo_bipush {i : Int} {v : Int32} (hd : decode cc pc = .ok (.bipush i, 2)) (hv : (Int8.ofInt i).toInt32 = v) (hq : pc + 2 = q) (kk : Bo d mc ms own cc nL cA F q lo (.int v :: st) ws k n) : Bo d mc ms own cc nL cA F pc lo st ws k n := by
  subst hq
  intro p l e s m args below meth c A D H locs ls C hP hD hS hl
  exact lv_bipush C.1 C.2.1 hd hv (kk p l e s m args below meth c A D H locs ls C hP hD hS hl)
theorem bo_sipush {i : Int} {v : Int32} (hd : decode cc pc = .ok (.sipush i, 3)) (hv : (Int16.ofInt i).toInt32 = v) (hq : pc + 3 = q) (kk : Bo d mc ms own cc nL cA F q lo (.int v :: st) ws k n) : Bo d mc ms own cc nL cA F pc lo st ws k n := by
  subst hq
  intro p l e s m args below meth c A D H locs ls C hP hD hS hl
  exact lv_sipush C.1 C.2.1 hd hv (kk p l e s m args below meth c A D H locs ls C hP hD hS hl)
theorem bo_dup {v : Value} (hd : decode cc pc = .ok (.dup, 1)) (hv : v.category = 1) (hq : pc + 1 = q) (kk : Bo d mc ms own cc nL cA F q lo (v :: v :: st) ws k n) : Bo d mc ms own cc nL cA F pc lo (v :: st) ws k n := by
  subst hq
  intro p l e s m args below meth c A D H locs ls C hP hD hS hl
  exact lv_dup C.1 C.2.1 hd hv (kk p l e s m args below meth c A D H locs ls C hP hD hS hl)
theorem bo_iadd {x y : Nat} (hd : decode cc pc = .ok (.iadd, 1)) (hq : pc + 1 = q) (kk : Bo d mc ms own cc nL cA F q lo (.int (nI (x + y)) :: st) ws k n) : Bo d mc ms own cc nL cA F pc lo (.int (nI y) :: .int (nI x) :: st) ws k n := by
  subst hq
  intro p l e s m args below meth c A D H locs ls C hP hD hS hl
  refine lv_iadd C.1 C.2.1 hd ?_
  rw [nI_add]
  exact kk p l e s m args below meth c A D H locs ls C hP hD hS hl
theorem bo_geT {x y : Int32} {off : Int} {tgt : Nat} (hd : decode cc pc = .ok (.if_icmp .ge off, 3)) (ht : (pc : Int) + off = (tgt : Int)) (h : y ≤ x) (kk : Bo d mc ms own cc nL cA F tgt lo st ws k n) : Bo d mc ms own cc nL cA F pc lo (.int y :: .int x :: st) ws k n := by
  intro p l e s m args below meth c A D H locs ls C hP hD hS hl
  exact lv_icmp_ge C.1 C.2.1 hd ht (fun _ => kk p l e s m args below meth c A D H locs ls C hP hD hS hl) (fun z => absurd h z)
theorem bo_geF {x y : Int32} {off : Int} {tgt : Nat} (hd : decode cc pc = .ok (.if_icmp .ge off, 3)) (ht : (pc : Int) + off = (tgt : Int)) (h : ¬ y ≤ x) (hq : pc + 3 = q) (kk : Bo d mc ms own cc nL cA F q lo st ws k n) : Bo d mc ms own cc nL cA F pc lo (.int y :: .int x :: st) ws k n := by
  subst hq
  intro p l e s m args below meth c A D H locs ls C hP hD hS hl
  exact lv_icmp_ge C.1 C.2.1 hd ht (fun z => absurd z h) (fun _ => kk p l e s m args below meth c A D H locs ls C hP hD hS hl)
theorem bo_goto {off : Int} {tgt : Nat} (hd : decode cc pc = .ok (.goto off, 3)) (ht : (pc : Int) + off = (tgt : Int)) (kk : Bo d mc ms own cc nL cA F tgt lo st ws k n) : Bo d mc ms own cc nL cA F pc lo st ws k n := by
  intro p l e s m args below meth c A D H locs ls C hP hD hS hl
  exact lv_goto C.1 C.2.1 hd ht (kk p l e s m args below meth c A D H locs ls C hP hD hS hl)
theorem bo_newa {atype : ArrayType} {ty : FieldType} {j N' : Nat} {i : Int32} {a0 : vp_A} (hd : decode cc pc = .ok (.newarray atype, 2)) (hty : newarray.typeOf atype = ty) (hw : Cond.arrayClass ty ∈ tW) (hj : ∀ cA, (tyC cA)[j]? = some (cA j, ty)) (hprim : ∀ (U : State) (c : ClassId), va_RA U c ty → U.vm.findClass ("[" ++ ty.toString) = some c)
    (ha : ∀ cA : ClassId, vp_cell cA a0 = arrV cA N' (fun _ => defaultValue ty)) (hn : ¬ i < 0) (hN : i.toNatClampNeg = N') (hb : N' * componentBytes ty ≤ 536870912) (hc1 : k + 1 ≤ mc) (hc2 : n + N' ≤ ms) (hq : pc + 2 = q)
    (kk : ∀ r, Bo d mc ms own cc nL cA F q lo (.ref r :: st) (ws ++ [(r, .inl (cA j, a0))]) (k + 1) (n + N')) : Bo d mc ms own cc nL cA F pc lo (.int i :: st) ws k n := by
  subst hq
  intro p l e s m args below meth c A D H locs ls C hP hD hS hl
  have hK := C.2.2.2.2.2.2.2.2.1
  refine va_newa (atype := atype) C.1 C.2.1 (by rw [hty]; exact C.2.2.2.2.2.1 _ hw) hty hK hP hD hS C.2.2.2.2.2.2.2.2.2.1 ha hn hN hb hc1 hc2 hd (fun r c2 H1 hK1 hP1 hD1 hS1 => ?_)
  have e1 := hprim s _ (hK.2 j _ (hj cA)).2
  have e2 := hprim s _ (hK1.2 (tyC cA).length (c2, ty) (by simp)).2
  have e3 : c2 = cA j := Option.some.inj (e2.symm.trans e1)
  subst e3
  exact kk r p l e s m args below meth c A D H1 locs ls C hP1 hD1 hS1 hl
theorem bo_newq {ix N' : Nat} {i : Int32} (hd : decode cc pc = .ok (.anewarray ix, 3)) (hw : Cond.classLink own ix "SproutCoins$Sheet" ∈ tW) (hn : ¬ i < 0) (hN : i.toNatClampNeg = N') (hb : N' * 4 ≤ 536870912) (hc1 : k + 1 ≤ mc) (hc2 : n + N' ≤ ms) (hq : pc + 3 = q)
    (kk : ∀ r, Bo d mc ms own cc nL cA F q lo (.ref r :: st) (ws ++ [(r, .inl (cA 3, N', .inr (.inr (.inr (.inr (fun _ => none))))))]) (k + 1) (n + N')) : Bo d mc ms own cc nL cA F pc lo (.int i :: st) ws k n := by
  subst hq
  intro p l e s m args below meth c A D H locs ls C hP hD hS hl
  have hK := C.2.2.2.2.2.2.2.2.1
  refine va_newq C.1 C.2.1 C.2.2.2.2.1 (C.2.2.2.2.2.1 _ hw) C.2.2.2.2.2.2.2.2.2.2.1 hK hP hD hS C.2.2.2.2.2.2.2.2.2.1 hn hN hb hc1 hc2 hd (fun r c2 H1 hK1 hP1 hD1 hS1 => ?_)
  obtain ⟨-, -, -, -, -, e1⟩ := (hK.2 3 (cA 3, .object "SproutCoins$Sheet") rfl).2
  obtain ⟨-, -, -, -, -, e2⟩ := (hK1.2 4 (c2, .object "SproutCoins$Sheet") rfl).2
  have e3 : c2 = cA 3 := Option.some.inj (e2.symm.trans e1)
  subst e3
  exact kk r p l e s m args below meth c A D H1 locs ls C hP1 hD1 hS1 hl
theorem bo_new {ix ci N : Nat} {Cn' : String} {T : u_T} {ty : Nat → FieldType} {fs : List Value} (hd : decode cc pc = .ok (.new ix, 3)) (hcl : vwCl[ci]? = some (Cn', T, N)) (hw : Cond.classLink own ix Cn' ∈ tW) (hi : Cond.instantiable Cn' N ∈ tW) (hz : Cond.initialized Cn' ∈ tW) (hin : ∀ w ∈ u_ws Cn' T N, w ∈ tW) (hty : ∀ k, k < N → parseFieldDescriptor (T k).2.2.1 = some (ty k)) (hfs : ∀ j, j < N → defaultValue (ty j) = vp_V fs j) (hc1 : k + 1 ≤ mc) (hc2 : n + N ≤ ms) (hq : pc + 3 = q)
    (kk : ∀ r, Bo d mc ms own cc nL cA F q lo (.ref r :: st) (ws ++ [(r, .inr (ci, fs))]) (k + 1) (n + N)) : Bo d mc ms own cc nL cA F pc lo st ws k n := by
  subst hq
  intro p l e s m args below meth c A D H locs ls C hP hD hS hl
  have ht := C.2.2.2.2.2.1
  exact va_new (ci := ci) (fs := fs) (C := Cn') (T := T) (N := N) C.1 C.2.1 ht hin ty hty C.2.2.2.2.1 (ht _ hw) (ht _ hi) (ht _ hz) C.2.2.2.2.2.2.2.2.1 hP hD hS C.2.2.2.2.2.2.2.2.2.1 hcl hfs hc1 hc2 hd (fun r H1 hP1 hD1 hS1 => kk r p l e s m args below meth c A D H1 locs ls C hP1 hD1 hS1 hl)
theorem bo_obj {ix x : Nat} (hd : decode cc pc = .ok (.invokespecial ix, 3)) (hw : Cond.methodLink own ix objectInit ∈ tW) (hi : Cond.instanceMethod objectInit ∈ tW) (hcd : Cond.code objectInit ⟨#[0xb1]⟩ 1 none ∈ tW) (hd1 : 1 ≤ d) (hst : (st.map fun v => v.category).sum ≤ 8) (hq : pc + 3 = q)
    (kk : Bo d mc ms own cc nL cA F q lo st ws k n) : Bo d mc ms own cc nL cA F pc lo (.ref x :: st) ws k n := by
  subst hq
  intro p l e s m args below meth c A D H locs ls C hP hD hS hl
  have ht := C.2.2.2.2.2.1
  refine W.objInit C.1 C.2.1 C.2.2.2.2.1 (ht _ hw) (ht _ hi) (ht _ hcd) rfl (by rw [C.2.2.1]; exact hl.1) rfl hd hd1 ?_ ?_
  · show 2 * 0 + (st.map fun v => v.category).sum + 12 ≤ 64 * d
    omega
  · exact W.eq (g2 := F0 m (pc + 3) ls st) rfl (kk p l e s m args below meth c A D H locs ls C hP hD hS hl)
theorem bo_putF {ix ci kf N a : Nat} {Cn' : String} {T : u_T} {ty0 : Nat → FieldType} {ty : FieldType} {fs : List Value} {w : va_W} {v : Value} (hd : decode cc pc = .ok (.putfield ix, 3)) (hcl : vwCl[ci]? = some (Cn', T, N)) (hty : ∀ k, k < N → parseFieldDescriptor (T k).2.2.1 = some (ty0 k)) (hnm : ∀ a, a < N → ∀ b, b < N → a ≠ b → (T a).2.1 ≠ (T b).2.1) (hf : FL own ix ci kf) (hfin : (T kf).2.2.2 = true) (hdecl : (T kf).1 = own) (hpd : parseFieldDescriptor (T kf).2.2.1 = some ty) (hna : narrow ty v = v) (hfit : fits ty v = true) (hlen : kf < fs.length) (hq : pc + 3 = q)
    (kk : Bo d mc ms own cc nL cA F q lo st ((a, .inr (ci, fs.set kf v)) :: w) k n) : Bo d mc ms own cc nL cA F pc lo (v :: .ref a :: st) ((a, .inr (ci, fs)) :: w) k n := by
  subst hq
  intro p l e s m args below meth c A D H locs ls C hP hD hS hl
  have ht := C.2.2.2.2.2.1
  obtain ⟨C2, T2, N2, hcl2, hk, hlink, hin⟩ := hf
  have e9 : (C2, T2, N2) = (Cn', T, N) := Option.some.inj (hcl2.symm.trans hcl)
  cases e9
  exact va_putF C.1 C.2.1 ht hin ty0 hty hnm C.2.2.2.2.1 C.2.2.2.2.2.2.2.2.1 hP hD hS 0 (fs := fs) rfl hcl kf hk (ht _ hlink) (fun _ z => z) hfin C.2.2.2.2.2.2.2.1 hdecl hpd hna hfit hlen hd (fun H1 locs1 hP1 hD1 hS1 => kk p l e s m args below meth c A D H1 locs1 ls C hP1 hD1 hS1 hl)
theorem bo_put {ix ci kf N a : Nat} {Cn' : String} {T : u_T} {ty0 : Nat → FieldType} {ty : FieldType} {fs : List Value} {w : va_W} {v : Value} (hd : decode cc pc = .ok (.putfield ix, 3)) (hcl : vwCl[ci]? = some (Cn', T, N)) (hty : ∀ k, k < N → parseFieldDescriptor (T k).2.2.1 = some (ty0 k)) (hnm : ∀ a, a < N → ∀ b, b < N → a ≠ b → (T a).2.1 ≠ (T b).2.1) (hf : FL own ix ci kf) (hfin : (T kf).2.2.2 = false) (hpd : parseFieldDescriptor (T kf).2.2.1 = some ty) (hna : narrow ty v = v) (hfit : fits ty v = true) (hlen : kf < fs.length) (hq : pc + 3 = q)
    (kk : Bo d mc ms own cc nL cA F q lo st ((a, .inr (ci, fs.set kf v)) :: w) k n) : Bo d mc ms own cc nL cA F pc lo (v :: .ref a :: st) ((a, .inr (ci, fs)) :: w) k n := by
  subst hq
  intro p l e s m args below meth c A D H locs ls C hP hD hS hl
  have ht := C.2.2.2.2.2.1
  obtain ⟨C2, T2, N2, hcl2, hk, hlink, hin⟩ := hf
  have e9 : (C2, T2, N2) = (Cn', T, N) := Option.some.inj (hcl2.symm.trans hcl)
  cases e9
  exact va_put C.1 C.2.1 ht hin ty0 hty hnm C.2.2.2.2.1 C.2.2.2.2.2.2.2.2.1 hP hD hS 0 (fs := fs) rfl hcl kf hk (ht _ hlink) (fun _ z => z) hfin hpd hna hfit hlen hd (fun H1 locs1 hP1 hD1 hS1 => kk p l e s m args below meth c A D H1 locs1 ls C hP1 hD1 hS1 hl)
theorem bo_get {ix ci kf N a : Nat} {Cn' : String} {T : u_T} {fs : List Value} {w : va_W} {v : Value} (hd : decode cc pc = .ok (.getfield ix, 3)) (hcl : vwCl[ci]? = some (Cn', T, N)) (hf : FL own ix ci kf) (hv : fs[kf]? = some v) (hq : pc + 3 = q)
    (kk : Bo d mc ms own cc nL cA F q lo (v :: st) ((a, .inr (ci, fs)) :: w) k n) : Bo d mc ms own cc nL cA F pc lo (.ref a :: st) ((a, .inr (ci, fs)) :: w) k n := by
  subst hq
  intro p l e s m args below meth c A D H locs ls C hP hD hS hl
  have ht := C.2.2.2.2.2.1
  obtain ⟨C2, T2, N2, hcl2, hk, hlink, hin⟩ := hf
  have e9 : (C2, T2, N2) = (Cn', T, N) := Option.some.inj (hcl2.symm.trans hcl)
  cases e9
  exact va_get C.1 C.2.1 ht hin C.2.2.2.2.1 C.2.2.2.2.2.2.2.2.1 hP 0 (fs := fs) rfl hcl kf hk (ht _ hlink) (fun _ z => z) hv hd (kk p l e s m args below meth c A D H locs ls C hP hD hS hl)
theorem bo_iast (q0 : Nat) {a n0 i : Nat} {f g : Nat → Int32} {x : Int32} {ws' : va_W} (hd : decode cc pc = .ok (.iastore, 1)) (ha : ws[q0]? = some (a, .inl (cA 0, n0, .inl f))) (hi : i < n0) (hn : n0 < 2 ^ 31) (hg : upd f i x = g) (hs : ws.set q0 (a, .inl (cA 0, n0, .inl g)) = ws') (hq : pc + 1 = q)
    (kk : Bo d mc ms own cc nL cA F q lo st ws' k n) : Bo d mc ms own cc nL cA F pc lo (.int x :: .int (nI i) :: .ref a :: st) ws k n := by
  subst hq
  subst hs
  subst hg
  intro p l e s m args below meth c A D H locs ls C hP hD hS hl
  refine va_iast C.1 C.2.1 C.2.2.2.2.2.2.2.2.1 hP hD hS q0 0 (cA := cA 0) (n := n0) (f := f) ha rfl (vp_in_nI hi hn) hd (fun H1 locs1 hP1 hD1 hS1 => ?_)
  rw [nI_clamp (by omega)] at hP1 hD1
  exact kk p l e s m args below meth c A D H1 locs1 ls C hP1 hD1 hS1 hl
theorem bo_aast (q0 qk : Nat) {a n0 i v : Nat} {f g : Nat → Option Nat} {vs : List Value} {ws' : va_W} (hd : decode cc pc = .ok (.aastore, 1)) (ha : ws[q0]? = some (a, .inl (cA 3, n0, .inr (.inr (.inr (.inr f)))))) (hv : ws[qk]? = some (v, .inr (1, vs))) (hi : i < n0) (hn : n0 < 2 ^ 31) (hg : va_up f i (some v) = g) (hs : ws.set q0 (a, .inl (cA 3, n0, .inr (.inr (.inr (.inr g))))) = ws') (hq : pc + 1 = q)
    (kk : Bo d mc ms own cc nL cA F q lo st ws' k n) : Bo d mc ms own cc nL cA F pc lo (.ref v :: .int (nI i) :: .ref a :: st) ws k n := by
  subst hq
  subst hs
  subst hg
  intro p l e s m args below meth c A D H locs ls C hP hD hS hl
  refine va_astq C.1 C.2.1 C.2.2.2.2.2.2.2.2.1 hP hD hS q0 3 qk 1 (cA := cA 3) (r := (RX1, TX1, 3)) (n := n0) (f := f) ha rfl hv rfl (vp_in_nI hi hn) hd (fun H1 locs1 hP1 hD1 hS1 => ?_)
  rw [nI_clamp (by omega)] at hP1 hD1
  exact kk p l e s m args below meth c A D H1 locs1 ls C hP1 hD1 hS1 hl
theorem bo_ret (hd : decode cc pc = .ok (.return_, 1)) (hk : k = mc) (hn : n = ms) (hF : F ws) : Bo d mc ms own cc nL cA F pc lo [] ws k n := by
  subst hk
  subst hn
  intro p l e s m args below meth c A D H locs ls C hP hD hS hl
  exact W.vret C.1 C.2.1 C.2.2.2.1 (fun t ht hW => ⟨⟨ws, rfl, hF, by rw [ht]; exact hP, va_K.moved hW.alike C.2.2.2.2.2.2.2.2.1, hD⟩, hS.F ht⟩) hS.2.2 hd C.2.2.2.2.2.2.1
theorem nd_of : ∀ {l : List Nat}, l.Nodup → va_nd l = true := by
  intro l
  induction l with
  | nil => intro _; rfl
  | cons a l ih =>
    intro h
    have h2 := List.nodup_cons.mp h
    show (decide (a ∉ l) && va_nd l) = true
    rw [ih h2.2, Bool.and_true]
    exact decide_eq_true h2.1
theorem nd_range (n : Nat) : va_nd (List.range n) = true := nd_of List.nodup_range
/-- behind a constructor: the others, and its world -/
theorem join1 {A0 : Nat → Prop} {D : va_G} {w w1 : va_W} {x : Nat × va_E} {H H1 : Heap} (hP : va_P D vwCl (w ++ [x]) H) (hD : va_D A0 (w ++ [x])) (hk : ∀ q : Nat, q < H.size → ¬ va_A [x] H.size q → H1[q]? = H[q]?) (hF : ∀ q, va_A [x] H.size q → A0 q) (hP1 : va_P D vwCl w1 H1) (hD1 : va_D (va_A [x] H.size) w1) : va_P D vwCl (w ++ w1) H1 ∧ va_D A0 (w ++ w1) := by
  refine va_join (wc := [x]) (wr := w) hP hD [w.length] (List.range w.length) ?_ ?_ ?_ ?_ hk hF hP1 hD1
  · simp
  · apply List.ext_getElem?
    intro i
    by_cases hi : i < w.length
    · simp [hi, List.getElem?_append_left hi]
    · rw [List.getElem?_eq_none (by simp; omega), List.getElem?_eq_none (by simp; omega)]
  · exact nd_range _
  · intro i hi
    have := List.mem_range.mp hi
    simp
    omega
theorem last1 {D : va_G} {w : va_W} {x : Nat × va_E} {H : Heap} (hP : va_P D vwCl (w ++ [x]) H) : va_P D vwCl [x] H := by
  intro j y hy
  have hj : j < 1 := (List.getElem?_eq_some_iff.mp hy).1
  rw [show j = 0 by omega] at hy
  cases hy
  exact hP w.length x (by simp)
theorem one_D (x : Nat × va_E) : va_D (fun _ => True) [x] := by
  refine ⟨fun i j p q hp hq _ => ?_, fun _ _ _ => trivial⟩
  have h1 : i < 1 := (List.getElem?_eq_some_iff.mp hp).1
  have h2 : j < 1 := (List.getElem?_eq_some_iff.mp hq).1
  omega
theorem bo_call {d' mc' ms' nL' ci ix b : Nat} {y : MethodName} {cc' : ByteArray} {fs : List Value} {F' : (Nat → ClassId) → Nat → va_W → Prop} (K : Ci d' mc' ms' y cc' nL' ci fs F') (hd : decode cc pc = .ok (.invokespecial ix, 3)) (hml : Cond.methodLink own ix y ∈ tW) (hcd : Cond.code y cc' nL' none ∈ tW) (hini : Cond.initialized y.cls ∈ tW) (him : Cond.instanceMethod y ∈ tW) (hnm : y.name = "<init>") (hds : y.cls ≠ "java/lang/invoke/MethodHandle" ∧ y.cls ≠ "java/lang/invoke/VarHandle" ∧ (parseMethodDescriptor y.desc).map (fun d => d.parameters.length) = some 0)
    (hlt : d' < d) (hL : nL' ≤ 40) (hst : (st.map fun v => v.category).sum ≤ 8) (hc1 : k + mc' ≤ mc) (hc2 : n + ms' ≤ ms) (hq : pc + 3 = q)
    (kk : ∀ w1, F' cA b w1 → Bo d mc ms own cc nL cA F q lo st (ws ++ w1) (k + mc') (n + ms')) : Bo d mc ms own cc nL cA F pc lo (.ref b :: st) (ws ++ [(b, .inr (ci, fs))]) k n := by
  subst hq
  intro p l e s m args below meth c A D H locs ls C hP hD hS hl
  have ht := C.2.2.2.2.2.1
  have hK := C.2.2.2.2.2.2.2.2.1
  have hFr : ∀ q, va_A [(b, Sum.inr (ci, fs))] H.size q → A q := by
    intro q h
    rcases h with ⟨j, e2, h⟩ | h
    · have hj : j < 1 := (List.getElem?_eq_some_iff.mp h).1
      rw [show j = 0 by omega] at h
      cases h
      exact hD.2 ws.length (b, .inr (ci, fs)) (by simp)
    · exact C.2.2.2.2.2.2.2.2.2.1 q (Nat.le_trans hS.1 h)
  have hPb : va_P D vwCl [(b, .inr (ci, fs))] H := last1 hP
  have hDb : va_D (fun _ => True) [(b, (Sum.inr (ci, fs) : va_E))] := one_D _
  refine va_callv (va_runI (As := []) (rest := st) ⟨C.1, C.2.1, C.2.2.1, C.2.2.2.2.1, ht⟩ (K l D cA b H.size) ⟨callB_of 0 ht (goodIn_tW hcd) rfl rfl rfl (ht _ hini) (ht _ hml) hds ⟨hlt, by show 8 + (nL' + 11) + 64 * d' ≤ 64 * d; omega⟩, hnm, ht _ him⟩
    ⟨fun a U g mk z => ⟨z.1, z.2.1, z.2.2.1, va_K.moved (u := U) (U := U.calling g mk a) (Vm.Alike.refl U.vm) z.2.2.2.1, z.2.2.2.2.1, z.2.2.2.2.2.blind g mk a⟩, fun U hU hW => ⟨rfl, by rw [hU], by rw [hU]; exact hPb, va_K.moved hW.alike hK, hDb, C.2.2.2.2.2.2.2.2.2.2.warm hW⟩⟩
    rfl rfl hl.1 rfl (lv_room hst) hd ⟨hc1, hc2⟩) hS (fun q _ h => hFr q h) hFr (fun w1 t H1 locs1 hth hvm hw hB hz1 hk1 hS1 => ?_)
  obtain ⟨hP1, hK1, hD1⟩ := hB
  rw [hth] at hP1
  obtain ⟨hP2, hD2⟩ := join1 hP hD hk1 hFr hP1 hD1
  exact kk w1 hw p l e s m args below meth c A D H1 locs1 ls C hP2 hD2 hS1 hl
theorem bo_callN {d' mc' ms' nL' ci ix b : Nat} {y : MethodName} {cc' : ByteArray} {fs : List Value} {F' : (Nat → ClassId) → Nat → va_W → Prop} (K : Ci d' mc' ms' y cc' nL' ci fs F') (hd : decode cc pc = .ok (.invokespecial ix, 3)) (hml : ∀ U, NB U → va_Nw (.methodLinkNest own ix y RX3) U) (hcd : Cond.code y cc' nL' none ∈ tW) (hini : Cond.initialized y.cls ∈ tW) (him : Cond.instanceMethod y ∈ tW) (hnm : y.name = "<init>") (hds : y.cls ≠ "java/lang/invoke/MethodHandle" ∧ y.cls ≠ "java/lang/invoke/VarHandle" ∧ (parseMethodDescriptor y.desc).map (fun d => d.parameters.length) = some 0)
    (hlt : d' < d) (hL : nL' ≤ 40) (hst : (st.map fun v => v.category).sum ≤ 8) (hc1 : k + mc' ≤ mc) (hc2 : n + ms' ≤ ms) (hq : pc + 3 = q)
    (kk : ∀ w1, F' cA b w1 → Bo d mc ms own cc nL cA F q lo st (ws ++ w1) (k + mc') (n + ms')) : Bo d mc ms own cc nL cA F pc lo (.ref b :: st) (ws ++ [(b, .inr (ci, fs))]) k n := by
  subst hq
  intro p l e s m args below meth c A D H locs ls C hP hD hS hl
  have ht := C.2.2.2.2.2.1
  have hK := C.2.2.2.2.2.2.2.2.1
  have hFr : ∀ q, va_A [(b, Sum.inr (ci, fs))] H.size q → A q := by
    intro q h
    rcases h with ⟨j, e2, h⟩ | h
    · have hj : j < 1 := (List.getElem?_eq_some_iff.mp h).1
      rw [show j = 0 by omega] at h
      cases h
      exact hD.2 ws.length (b, .inr (ci, fs)) (by simp)
    · exact C.2.2.2.2.2.2.2.2.2.1 q (Nat.le_trans hS.1 h)
  have hPb : va_P D vwCl [(b, .inr (ci, fs))] H := last1 hP
  have hDb : va_D (fun _ => True) [(b, (Sum.inr (ci, fs) : va_E))] := one_D _
  refine va_callv (va_runIN (As := []) (rest := st) ⟨C.1, C.2.1, C.2.2.1, C.2.2.2.2.1, ht⟩ (K l D cA b H.size) ⟨va_cnB 0 ht (goodIn_tW hcd) rfl rfl rfl (hml s C.2.2.2.2.2.2.2.2.2.2) (ht _ hini) hds ⟨hlt, by show 8 + (nL' + 11) + 64 * d' ≤ 64 * d; omega⟩, hnm, ht _ him⟩
    ⟨fun a U g mk z => ⟨z.1, z.2.1, z.2.2.1, va_K.moved (u := U) (U := U.calling g mk a) (Vm.Alike.refl U.vm) z.2.2.2.1, z.2.2.2.2.1, z.2.2.2.2.2.blind g mk a⟩, fun U hU hW => ⟨rfl, by rw [hU], by rw [hU]; exact hPb, va_K.moved hW.alike hK, hDb, C.2.2.2.2.2.2.2.2.2.2.warm hW⟩⟩
    rfl rfl hl.1 rfl (lv_room hst) hd ⟨hc1, hc2⟩) hS (fun q _ h => hFr q h) hFr (fun w1 t H1 locs1 hth hvm hw hB hz1 hk1 hS1 => ?_)
  obtain ⟨hP1, hK1, hD1⟩ := hB
  rw [hth] at hP1
  obtain ⟨hP2, hD2⟩ := join1 hP hD hk1 hFr hP1 hD1
  exact kk w1 hw p l e s m args below meth c A D H1 locs1 ls C hP2 hD2 hS1 hl
end BO
/-- a row filled from a on -/
def fil (a : Nat) (v : Int32) (n : Nat) (f : Nat → Int32) : Nat → Int32 := fun c => if a ≤ c ∧ c < a + n then v else f c
theorem fil_0 (a : Nat) (v : Int32) (f : Nat → Int32) : fil a v 0 f = f := by
  funext c
  unfold fil
  rw [if_neg (by omega)]
theorem fil_s (a : Nat) (v : Int32) (n : Nat) (f : Nat → Int32) : upd (fil a v n f) (a + n) v = fil a v (n + 1) f := by
  funext c
  unfold upd fil
  by_cases e : c = a + n
  · rw [if_pos e, if_pos (by omega)]
  · rw [if_neg e]
    by_cases h : a ≤ c ∧ c < a + n
    · rw [if_pos h, if_pos (by omega)]
    · rw [if_neg h, if_neg (by omega)]
