/-! THE LAYER: the kit's judgement W over a heap of numbered cells (AH): references are the cells' numbers, α their addresses -/
abbrev AH : Type := Nat → va_E
def nC : Nat := 80
def cV (α : Nat → Nat) (v : Value) : Value := match v with
  | .ref i => .ref (α i)
  | v => v
def cE (α : Nat → Nat) (cA : Nat → ClassId) (z : va_E) : va_E := match z with
  | .inl (k, n, .inr (.inr (.inr (.inr f)))) => .inl (cA k, n, .inr (.inr (.inr (.inr (fun i => (f i).map α)))))
  | .inl (k, n, .inl f) => .inl (cA k, n, .inl f)
  | .inl (k, n, .inr (.inl f)) => .inl (cA k, n, .inr (.inl f))
  | .inl (k, x) => .inl (cA k, x)
  | .inr (ci, fs) => .inr (ci, fs.map (cV α))
def cW (α : Nat → Nat) (cA : Nat → ClassId) (h : AH) : va_W := (List.range nC).map (fun i => (α i, cE α cA (h i)))
def hset (h : AH) (i : Nat) (z : va_E) : AH := fun j => if j = i then z else h j
def wA (α : Nat → Nat) : Nat → Prop := fun q => ∃ i, i < nC ∧ q = α i
def ainj (α : Nat → Nat) : Prop := ∀ i j, i < nC → j < nC → α i = α j → i = j
abbrev tyC (cA : Nat → ClassId) : List (ClassId × FieldType) := [(cA 0, .int), (cA 1, .long), (cA 2, .boolean), (cA 3, .object "SproutCoins$Sheet")]
theorem cW_at {α : Nat → Nat} {cA : Nat → ClassId} {h : AH} {i : Nat} (hi : i < nC) : (cW α cA h)[i]? = some (α i, cE α cA (h i)) := by
  simp [cW, hi]
theorem cW_len {α : Nat → Nat} {cA : Nat → ClassId} {h : AH} : (cW α cA h).length = nC := by simp [cW]
theorem cW_set {α : Nat → Nat} {cA : Nat → ClassId} {h : AH} {i : Nat} {z : va_E} (hi : i < nC) : (cW α cA h).set i (α i, cE α cA z) = cW α cA (hset h i z) := by
  apply List.ext_getElem?
  intro j
  by_cases hj : j < nC
  · rw [cW_at hj, List.getElem?_set]
    by_cases hij : i = j
    · subst hij
      rw [if_pos rfl, if_pos (by rw [cW_len]; exact hi)]
      simp [hset]
    · rw [if_neg hij, cW_at hj]
      have hji : ¬ j = i := fun e => hij e.symm
      simp [hset, hji]
  · rw [List.getElem?_eq_none (by rw [List.length_set, cW_len]; omega), List.getElem?_eq_none (by rw [cW_len]; omega)]
theorem cW_D {α : Nat → Nat} {cA : Nat → ClassId} {h : AH} (hj : ainj α) : va_D (wA α) (cW α cA h) := by
  have key : ∀ (k : Nat) (q : Nat × va_E), (cW α cA h)[k]? = some q → k < nC ∧ q.1 = α k := by
    intro k q hk
    have hl : k < nC := by
      have := (List.getElem?_eq_some_iff.mp hk).1
      rwa [cW_len] at this
    rw [cW_at hl] at hk
    cases hk
    exact ⟨hl, rfl⟩
  refine ⟨fun i j p q hp hq he => ?_, fun k q hk => ?_⟩
  · obtain ⟨h1, e1⟩ := key i p hp
    obtain ⟨h2, e2⟩ := key j q hq
    exact hj i j h1 h2 (by rw [← e1, ← e2]; exact he)
  · obtain ⟨h1, e1⟩ := key k q hk
    exact ⟨k, h1, e1⟩
def tW : List Cond := lw_tbl.filter goodWord
/-! the strings of Tape -/
def nStr : Nat := 15
def strTx : List String := ["blue", "red", "seed", "boiled", "sky", "coin", "of", "size", "rotten", "planted", "soil", "price", "loan", "to", "in"]
def strIx : List Nat := [109, 111, 113, 115, 117, 119, 70, 79, 81, 83, 48, 57, 62, 95, 100]
def strLen : List Nat := [4, 3, 4, 6, 3, 4, 2, 4, 6, 7, 4, 5, 4, 2, 2]
def strByt : List (List Int32) := [[98, 108, 117, 101], [114, 101, 100], [115, 101, 101, 100], [98, 111, 105, 108, 101, 100], [115, 107, 121], [99, 111, 105, 110], [111, 102], [115, 105, 122, 101], [114, 111, 116, 116, 101, 110], [112, 108, 97, 110, 116, 101, 100], [115, 111, 105, 108], [112, 114, 105, 99, 101], [108, 111, 97, 110], [116, 111], [105, 110]]
def ST (α : Nat → Nat) (U : State) : Prop := vk_S nStr strLen strByt (fun j => α (1000 + j)) (fun j => α (2000 + j)) (wA α) U U.heap ∧ (∀ j, j < nStr → vk_R RX2 (strIx.getD j 0) (strTx.getD j "") (α (1000 + j)) U) ∧ va_Z "java/lang/String" "COMPACT_STRINGS" "Z" (.int 1) (wA α) U U.heap ∧ (va_Z "jdk/internal/util/Preconditions" "SIOOBE_FORMATTER" "Ljava/util/function/BiFunction;" (.ref (α 3000)) (wA α) U U.heap ∨ va_Z "jdk/internal/util/Preconditions" "SIOOBE_FORMATTER" "Ljava/util/function/BiFunction;" .null (wA α) U U.heap)
def rmD (d : Nat) : Room := { frames := d, cells := 0, slots := 0, locals := 64 * d }
def Cx (own : String) (cc : ByteArray) (nL : Nat) (ret : Option FieldType) (p : Program) (s : State) (m : MethodId) (args : Array Value) (meth : Method) (c : Code) (α : Nat → Nat) (cA : Nat → ClassId) (D : va_G) : Prop :=
  p.tables.exec = Jvm.exec ∧ c.code = cc ∧ c.maxLocals = nL ∧ meth.sig.returnType = ret ∧ s.vm.findClass own = some m.cls ∧ (∀ w ∈ tW, w.before args s = true) ∧ meth.locks = false ∧ va_K D vwCl (tyC cA) s ∧ ainj α ∧ ST α s
def LO (α : Nat → Nat) (ls : Array Slot) (nL : Nat) (lo : List (Option Value)) : Prop := ls.size = nL ∧ lv_wf ls ∧ ∀ (i : Nat) (v : Value), lo[i]? = some (some v) → ls[i]? = some (.val (cV α v))
def Qx (α : Nat → Nat) (cA : Nat → ClassId) (D : va_G) (Q : Option Value → AH → Prop) : Array Value → State → Outcome → State → Prop := fun _ st o t =>
  (∃ (v : Option Value) (h' : AH), o = .returned (v.map (cV α)) ∧ Q v h' ∧ va_P D vwCl (cW α cA h') t.heap ∧ va_K D vwCl (tyC cA) t) ∧ va_F (wA α) st t
def Go (d : Nat) (own : String) (cc : ByteArray) (nL : Nat) (ret : Option FieldType) (pc : Nat) (lo : List (Option Value)) (st : List Value) (h : AH) (Q : Option Value → AH → Prop) : Prop :=
  ∀ (p : Program) (l : Launch) (e : Env) (s : State) (m : MethodId) (args : Array Value) (below : List Frame) (meth : Method) (c : Code) (α : Nat → Nat) (cA : Nat → ClassId) (D : va_G) (H : Heap) (locs : List Loc) (ls : Array Slot),
    Cx own cc nL ret p s m args meth c α cA D → va_P D vwCl (cW α cA h) H → va_S (wA α) s.heap H locs → LO α ls nL lo →
    W p l e (rmD d) s m args below meth c H locs 0 0 (MQ below (Qx α cA D Q) args s 0 0 (wA α)) (F0 m pc ls (st.map (cV α)))
/-- a method's contract: from the world h with these arguments it returns, and Q holds of its answer and the world then -/
def Cn (d : Nat) (y : MethodName) (cc : ByteArray) (nL : Nat) (ret : Option FieldType) (av : List Value) (h : AH) (Q : Option Value → AH → Prop) : Prop :=
  ∀ (l : Launch) (α : Nat → Nat) (cA : Nat → ClassId) (D : va_G), ainj α →
    Met l y (Cond.code y cc nL ret :: tW) (rmD d) (fun v U => v = (av.map (cV α)).toArray ∧ va_P D vwCl (cW α cA h) U.heap ∧ va_K D vwCl (tyC cA) U ∧ ST α U) (Qx α cA D Q) 0 0 (wA α)
/-- the locals at a method's entry -/
def loA : List Value → List (Option Value)
  | [] => []
  | v :: vs => match v with
    | .long x => some (.long x) :: none :: loA vs
    | .double x => some (.double x) :: none :: loA vs
    | w => some w :: loA vs
theorem cV_cat (α : Nat → Nat) (v : Value) : (cV α v).category = v.category := by cases v <;> rfl
theorem loA_args (α : Nat → Nat) : ∀ (vs : List Value) (b i : Nat) (v : Value), (loA vs)[i]? = some (some v) → (b + i, cV α v) ∈ lv_args b (vs.map (cV α)) := by
  intro vs
  induction vs with
  | nil => intro b i v h; simp [loA] at h
  | cons w vs ih =>
    intro b i v h
    have two : ∀ (h2 : w.category = 2), (some w :: none :: loA vs)[i]? = some (some v) → (b + i, cV α v) ∈ lv_args b ((w :: vs).map (cV α)) := by
      intro h2 h
      match i, h with
      | 0, h =>
        have e : w = v := by simpa using h
        subst e
        simp [lv_args]
      | 1, h => simp at h
      | j + 2, h =>
        have h' : (loA vs)[j]? = some (some v) := by simpa using h
        have := ih (b + 2) j v h'
        simp only [List.map_cons, lv_args, cV_cat, h2, if_true]
        refine List.mem_cons_of_mem _ ?_
        rwa [show b + 2 + j = b + (j + 2) by omega] at this
    have one : ∀ (h2 : w.category = 1), (some w :: loA vs)[i]? = some (some v) → (b + i, cV α v) ∈ lv_args b ((w :: vs).map (cV α)) := by
      intro h2 h
      match i, h with
      | 0, h =>
        have e : w = v := by simpa using h
        subst e
        simp [lv_args]
      | j + 1, h =>
        have h' : (loA vs)[j]? = some (some v) := by simpa using h
        have := ih (b + 1) j v h'
        simp only [List.map_cons, lv_args, cV_cat, h2]
        refine List.mem_cons_of_mem _ ?_
        rw [if_neg (by decide)]
        rwa [show b + 1 + j = b + (j + 1) by omega] at this
    cases w with
    | long x => exact two rfl h
    | double x => exact two rfl h
    | int x => exact one rfl h
    | float x => exact one rfl h
    | null => exact one rfl h
    | ref x => exact one rfl h
    | retAddr x => exact one rfl h
def slN : List Value → Nat
  | [] => 0
  | v :: vs => v.category + slN vs
theorem slN_len : ∀ (vs : List Value), (lg_sl vs).length = slN vs := by
  intro vs
  induction vs with
  | nil => rfl
  | cons v vs ih =>
    have e : (lg_sl (v :: vs)).length = v.category + (lg_sl vs).length := by
      simp only [lg_sl, List.flatMap_cons, List.length_append]
      cases v <;> rfl
    rw [e, ih]
    rfl
theorem slN_map (α : Nat → Nat) : ∀ (vs : List Value), slN (vs.map (cV α)) = slN vs := by
  intro vs
  induction vs with
  | nil => rfl
  | cons v vs ih => simp only [List.map_cons, slN, cV_cat, ih]
theorem LO.forget {α : Nat → Nat} {ls : Array Slot} {nL : Nat} {lo lo' : List (Option Value)} (h : LO α ls nL lo) (hk : ∀ (i : Nat) (v : Value), lo'[i]? = some (some v) → lo[i]? = some (some v)) : LO α ls nL lo' := ⟨h.1, h.2.1, fun i v q => h.2.2 i v (hk i v q)⟩
theorem good_tW {w : Cond} (h : w ∈ tW) : goodWord w = true := (List.mem_filter.mp h).2
theorem goodIn_tW {y : MethodName} {cc : ByteArray} {nL : Nat} {ret : Option FieldType} (h : Cond.code y cc nL ret ∈ tW) : GoodIn tW (Cond.code y cc nL ret :: tW) := fun w hw => by
  have hm : w ∈ tW := (List.mem_cons.mp hw).elim (fun q => q ▸ h) id
  exact ⟨hm, good_of_word (good_tW hm)⟩
theorem in_tW (i : Nat) {w : Cond} (h : lw_tbl[i]? = some w) (g : goodWord w = true) : w ∈ tW := List.mem_filter.mpr ⟨List.mem_of_getElem? h, g⟩
theorem go_iconst {d : Nat} {own : String} {cc : ByteArray} {nL : Nat} {ret : Option FieldType} {pc q : Nat} {lo : List (Option Value)} {st : List Value} {h : AH} {Q : Option Value → AH → Prop} {n : Int} (hd : decode cc pc = .ok (.iconst n, 1))  (hq : pc + 1 = q) (k : Go d own cc nL ret q lo (.int (Int32.ofInt n) :: st) h Q) : Go d own cc nL ret pc lo (st) h Q := by
  subst hq
  intro p l e s m args below meth c α cA D H locs ls C hP hS hl
  exact lv_iconst C.1 C.2.1 hd rfl (k p l e s m args below meth c α cA D H locs ls C hP hS hl)

theorem go_iconstN {d : Nat} {own : String} {cc : ByteArray} {nL : Nat} {ret : Option FieldType} {pc q : Nat} {lo : List (Option Value)} {st : List Value} {h : AH} {Q : Option Value → AH → Prop} {n : Nat} (hd : decode cc pc = .ok (.iconst (n : Nat), 1))  (hq : pc + 1 = q) (k : Go d own cc nL ret q lo (.int (nI n) :: st) h Q) : Go d own cc nL ret pc lo (st) h Q := by
  subst hq
  intro p l e s m args below meth c α cA D H locs ls C hP hS hl
  exact lv_iconst C.1 C.2.1 hd rfl (k p l e s m args below meth c α cA D H locs ls C hP hS hl)

theorem go_bipushN {d : Nat} {own : String} {cc : ByteArray} {nL : Nat} {ret : Option FieldType} {pc q : Nat} {lo : List (Option Value)} {st : List Value} {h : AH} {Q : Option Value → AH → Prop} {n : Int} {v : Nat} (hd : decode cc pc = .ok (.bipush n, 2)) (hv : (Int8.ofInt n).toInt32 = nI v) (hq : pc + 2 = q) (k : Go d own cc nL ret q lo (.int (nI v) :: st) h Q) : Go d own cc nL ret pc lo (st) h Q := by
  subst hq
  intro p l e s m args below meth c α cA D H locs ls C hP hS hl
  exact lv_bipush C.1 C.2.1 hd hv (k p l e s m args below meth c α cA D H locs ls C hP hS hl)

theorem go_bipush {d : Nat} {own : String} {cc : ByteArray} {nL : Nat} {ret : Option FieldType} {pc q : Nat} {lo : List (Option Value)} {st : List Value} {h : AH} {Q : Option Value → AH → Prop} {n : Int} {v : Int32} (hd : decode cc pc = .ok (.bipush n, 2)) (hv : (Int8.ofInt n).toInt32 = v) (hq : pc + 2 = q) (k : Go d own cc nL ret q lo (.int v :: st) h Q) : Go d own cc nL ret pc lo (st) h Q := by
  subst hq
  intro p l e s m args below meth c α cA D H locs ls C hP hS hl
  exact lv_bipush C.1 C.2.1 hd hv (k p l e s m args below meth c α cA D H locs ls C hP hS hl)

theorem go_sipushN {d : Nat} {own : String} {cc : ByteArray} {nL : Nat} {ret : Option FieldType} {pc q : Nat} {lo : List (Option Value)} {st : List Value} {h : AH} {Q : Option Value → AH → Prop} {n : Int} {v : Nat} (hd : decode cc pc = .ok (.sipush n, 3)) (hv : (Int16.ofInt n).toInt32 = nI v) (hq : pc + 3 = q) (k : Go d own cc nL ret q lo (.int (nI v) :: st) h Q) : Go d own cc nL ret pc lo (st) h Q := by
  subst hq
  intro p l e s m args below meth c α cA D H locs ls C hP hS hl
  exact lv_sipush C.1 C.2.1 hd hv (k p l e s m args below meth c α cA D H locs ls C hP hS hl)

theorem go_lconst {d : Nat} {own : String} {cc : ByteArray} {nL : Nat} {ret : Option FieldType} {pc q : Nat} {lo : List (Option Value)} {st : List Value} {h : AH} {Q : Option Value → AH → Prop} {n : Fin 2} (hd : decode cc pc = .ok (.lconst n, 1))  (hq : pc + 1 = q) (k : Go d own cc nL ret q lo (.long (Int64.ofNat (n : Nat)) :: st) h Q) : Go d own cc nL ret pc lo (st) h Q := by
  subst hq
  intro p l e s m args below meth c α cA D H locs ls C hP hS hl
  exact lv_lconst C.1 C.2.1 hd rfl (k p l e s m args below meth c α cA D H locs ls C hP hS hl)

theorem go_ldc {d : Nat} {own : String} {cc : ByteArray} {nL : Nat} {ret : Option FieldType} {pc q : Nat} {lo : List (Option Value)} {st : List Value} {h : AH} {Q : Option Value → AH → Prop} {ix : Nat} {v : Int32} (hd : decode cc pc = .ok (.ldc ix, 2)) (hw : Cond.constant own ix v ∈ tW) (hq : pc + 2 = q) (k : Go d own cc nL ret q lo (.int v :: st) h Q) : Go d own cc nL ret pc lo st h Q := by
  subst hq
  intro p l e s m args below meth c α cA D H locs ls C hP hS hl
  exact lv_ldc C.1 C.2.1 C.2.2.2.2.1 (C.2.2.2.2.2.1 _ hw) hd (k p l e s m args below meth c α cA D H locs ls C hP hS hl)

theorem go_ldcw {d : Nat} {own : String} {cc : ByteArray} {nL : Nat} {ret : Option FieldType} {pc q : Nat} {lo : List (Option Value)} {st : List Value} {h : AH} {Q : Option Value → AH → Prop} {ix : Nat} {v : Int32} (hd : decode cc pc = .ok (.ldc_w ix, 3)) (hw : Cond.constant own ix v ∈ tW) (hq : pc + 3 = q) (k : Go d own cc nL ret q lo (.int v :: st) h Q) : Go d own cc nL ret pc lo st h Q := by
  subst hq
  intro p l e s m args below meth c α cA D H locs ls C hP hS hl
  exact lv_ldcw C.1 C.2.1 C.2.2.2.2.1 (C.2.2.2.2.2.1 _ hw) hd (k p l e s m args below meth c α cA D H locs ls C hP hS hl)

theorem go_ldc2 {d : Nat} {own : String} {cc : ByteArray} {nL : Nat} {ret : Option FieldType} {pc q : Nat} {lo : List (Option Value)} {st : List Value} {h : AH} {Q : Option Value → AH → Prop} {ix : Nat} {v : Int64} (hd : decode cc pc = .ok (.ldc2_w ix, 3)) (hw : Cond.constantLong own ix v ∈ tW) (hq : pc + 3 = q) (k : Go d own cc nL ret q lo (.long v :: st) h Q) : Go d own cc nL ret pc lo st h Q := by
  subst hq
  intro p l e s m args below meth c α cA D H locs ls C hP hS hl
  exact lv_ldc2 C.1 C.2.1 C.2.2.2.2.1 (C.2.2.2.2.2.1 _ hw) hd (k p l e s m args below meth c α cA D H locs ls C hP hS hl)

theorem go_ldcS {d : Nat} {own : String} {cc : ByteArray} {nL : Nat} {ret : Option FieldType} {pc q : Nat} {lo : List (Option Value)} {st : List Value} {h : AH} {Q : Option Value → AH → Prop} (j : Nat) (hj : j < nStr) {ix : Nat} (hd : decode cc pc = .ok (.ldc ix, 2)) (hw : own = RX2 ∧ strIx.getD j 0 = ix) (hq : pc + 2 = q) (k : Go d own cc nL ret q lo (.ref (1000 + j) :: st) h Q) : Go d own cc nL ret pc lo st h Q := by
  subst hq
  obtain ⟨rfl, rfl⟩ := hw
  intro p l e s m args below meth c α cA D H locs ls C hP hS hl
  exact va_ldcS C.1 C.2.1 C.2.2.2.2.1 (C.2.2.2.2.2.2.2.2.2.2.1 j hj) hd (k p l e s m args below meth c α cA D H locs ls C hP hS hl)

theorem go_iload0 {d : Nat} {own : String} {cc : ByteArray} {nL : Nat} {ret : Option FieldType} {pc q : Nat} {st : List Value} {h : AH} {Q : Option Value → AH → Prop} {r : List (Option Value)} {x : Int32} (hd : decode cc pc = .ok (.iload 0, 2)) (hq : pc + 2 = q) (k : Go d own cc nL ret q (some (.int x) :: r) (.int x :: st) h Q) : Go d own cc nL ret pc (some (.int x) :: r) st h Q := by
  subst hq
  intro p l e s m args below meth c α cA D H locs ls C hP hS hl
  exact lv_iload C.1 C.2.1 hd (hl.2.2 0 (.int x) rfl) (k p l e s m args below meth c α cA D H locs ls C hP hS hl)

theorem go_iloadn0 {d : Nat} {own : String} {cc : ByteArray} {nL : Nat} {ret : Option FieldType} {pc q : Nat} {st : List Value} {h : AH} {Q : Option Value → AH → Prop} {r : List (Option Value)} {x : Int32} (hd : decode cc pc = .ok (.iload_n 0, 1)) (hq : pc + 1 = q) (k : Go d own cc nL ret q (some (.int x) :: r) (.int x :: st) h Q) : Go d own cc nL ret pc (some (.int x) :: r) st h Q := by
  subst hq
  intro p l e s m args below meth c α cA D H locs ls C hP hS hl
  exact lv_iload_n C.1 C.2.1 hd rfl (hl.2.2 0 (.int x) rfl) (k p l e s m args below meth c α cA D H locs ls C hP hS hl)

theorem go_aload0 {d : Nat} {own : String} {cc : ByteArray} {nL : Nat} {ret : Option FieldType} {pc q : Nat} {st : List Value} {h : AH} {Q : Option Value → AH → Prop} {r : List (Option Value)} {x : Nat} (hd : decode cc pc = .ok (.aload 0, 2)) (hq : pc + 2 = q) (k : Go d own cc nL ret q (some (.ref x) :: r) (.ref x :: st) h Q) : Go d own cc nL ret pc (some (.ref x) :: r) st h Q := by
  subst hq
  intro p l e s m args below meth c α cA D H locs ls C hP hS hl
  exact lv_aload C.1 C.2.1 hd (hl.2.2 0 (.ref x) rfl) (k p l e s m args below meth c α cA D H locs ls C hP hS hl)

theorem go_aloadn0 {d : Nat} {own : String} {cc : ByteArray} {nL : Nat} {ret : Option FieldType} {pc q : Nat} {st : List Value} {h : AH} {Q : Option Value → AH → Prop} {r : List (Option Value)} {x : Nat} (hd : decode cc pc = .ok (.aload_n 0, 1)) (hq : pc + 1 = q) (k : Go d own cc nL ret q (some (.ref x) :: r) (.ref x :: st) h Q) : Go d own cc nL ret pc (some (.ref x) :: r) st h Q := by
  subst hq
  intro p l e s m args below meth c α cA D H locs ls C hP hS hl
  exact lv_aload_n C.1 C.2.1 hd rfl (hl.2.2 0 (.ref x) rfl) (k p l e s m args below meth c α cA D H locs ls C hP hS hl)

theorem go_lload0 {d : Nat} {own : String} {cc : ByteArray} {nL : Nat} {ret : Option FieldType} {pc q : Nat} {st : List Value} {h : AH} {Q : Option Value → AH → Prop} {r : List (Option Value)} {x : Int64} (hd : decode cc pc = .ok (.lload 0, 2)) (hq : pc + 2 = q) (k : Go d own cc nL ret q (some (.long x) :: r) (.long x :: st) h Q) : Go d own cc nL ret pc (some (.long x) :: r) st h Q := by
  subst hq
  intro p l e s m args below meth c α cA D H locs ls C hP hS hl
  exact lv_lload C.1 C.2.1 hd (hl.2.2 0 (.long x) rfl) (k p l e s m args below meth c α cA D H locs ls C hP hS hl)

theorem go_lloadn0 {d : Nat} {own : String} {cc : ByteArray} {nL : Nat} {ret : Option FieldType} {pc q : Nat} {st : List Value} {h : AH} {Q : Option Value → AH → Prop} {r : List (Option Value)} {x : Int64} (hd : decode cc pc = .ok (.lload_n 0, 1)) (hq : pc + 1 = q) (k : Go d own cc nL ret q (some (.long x) :: r) (.long x :: st) h Q) : Go d own cc nL ret pc (some (.long x) :: r) st h Q := by
  subst hq
  intro p l e s m args below meth c α cA D H locs ls C hP hS hl
  exact lv_lload_n C.1 C.2.1 hd rfl (hl.2.2 0 (.long x) rfl) (k p l e s m args below meth c α cA D H locs ls C hP hS hl)

theorem go_iload1 {d : Nat} {own : String} {cc : ByteArray} {nL : Nat} {ret : Option FieldType} {pc q : Nat} {st : List Value} {h : AH} {Q : Option Value → AH → Prop} {a0 : Option Value} {r : List (Option Value)} {x : Int32} (hd : decode cc pc = .ok (.iload 1, 2)) (hq : pc + 2 = q) (k : Go d own cc nL ret q (a0 :: some (.int x) :: r) (.int x :: st) h Q) : Go d own cc nL ret pc (a0 :: some (.int x) :: r) st h Q := by
  subst hq
  intro p l e s m args below meth c α cA D H locs ls C hP hS hl
  exact lv_iload C.1 C.2.1 hd (hl.2.2 1 (.int x) rfl) (k p l e s m args below meth c α cA D H locs ls C hP hS hl)

theorem go_iloadn1 {d : Nat} {own : String} {cc : ByteArray} {nL : Nat} {ret : Option FieldType} {pc q : Nat} {st : List Value} {h : AH} {Q : Option Value → AH → Prop} {a0 : Option Value} {r : List (Option Value)} {x : Int32} (hd : decode cc pc = .ok (.iload_n 1, 1)) (hq : pc + 1 = q) (k : Go d own cc nL ret q (a0 :: some (.int x) :: r) (.int x :: st) h Q) : Go d own cc nL ret pc (a0 :: some (.int x) :: r) st h Q := by
  subst hq
  intro p l e s m args below meth c α cA D H locs ls C hP hS hl
  exact lv_iload_n C.1 C.2.1 hd rfl (hl.2.2 1 (.int x) rfl) (k p l e s m args below meth c α cA D H locs ls C hP hS hl)

theorem go_aload1 {d : Nat} {own : String} {cc : ByteArray} {nL : Nat} {ret : Option FieldType} {pc q : Nat} {st : List Value} {h : AH} {Q : Option Value → AH → Prop} {a0 : Option Value} {r : List (Option Value)} {x : Nat} (hd : decode cc pc = .ok (.aload 1, 2)) (hq : pc + 2 = q) (k : Go d own cc nL ret q (a0 :: some (.ref x) :: r) (.ref x :: st) h Q) : Go d own cc nL ret pc (a0 :: some (.ref x) :: r) st h Q := by
  subst hq
  intro p l e s m args below meth c α cA D H locs ls C hP hS hl
  exact lv_aload C.1 C.2.1 hd (hl.2.2 1 (.ref x) rfl) (k p l e s m args below meth c α cA D H locs ls C hP hS hl)

theorem go_aloadn1 {d : Nat} {own : String} {cc : ByteArray} {nL : Nat} {ret : Option FieldType} {pc q : Nat} {st : List Value} {h : AH} {Q : Option Value → AH → Prop} {a0 : Option Value} {r : List (Option Value)} {x : Nat} (hd : decode cc pc = .ok (.aload_n 1, 1)) (hq : pc + 1 = q) (k : Go d own cc nL ret q (a0 :: some (.ref x) :: r) (.ref x :: st) h Q) : Go d own cc nL ret pc (a0 :: some (.ref x) :: r) st h Q := by
  subst hq
  intro p l e s m args below meth c α cA D H locs ls C hP hS hl
  exact lv_aload_n C.1 C.2.1 hd rfl (hl.2.2 1 (.ref x) rfl) (k p l e s m args below meth c α cA D H locs ls C hP hS hl)

theorem go_lload1 {d : Nat} {own : String} {cc : ByteArray} {nL : Nat} {ret : Option FieldType} {pc q : Nat} {st : List Value} {h : AH} {Q : Option Value → AH → Prop} {a0 : Option Value} {r : List (Option Value)} {x : Int64} (hd : decode cc pc = .ok (.lload 1, 2)) (hq : pc + 2 = q) (k : Go d own cc nL ret q (a0 :: some (.long x) :: r) (.long x :: st) h Q) : Go d own cc nL ret pc (a0 :: some (.long x) :: r) st h Q := by
  subst hq
  intro p l e s m args below meth c α cA D H locs ls C hP hS hl
  exact lv_lload C.1 C.2.1 hd (hl.2.2 1 (.long x) rfl) (k p l e s m args below meth c α cA D H locs ls C hP hS hl)

theorem go_lloadn1 {d : Nat} {own : String} {cc : ByteArray} {nL : Nat} {ret : Option FieldType} {pc q : Nat} {st : List Value} {h : AH} {Q : Option Value → AH → Prop} {a0 : Option Value} {r : List (Option Value)} {x : Int64} (hd : decode cc pc = .ok (.lload_n 1, 1)) (hq : pc + 1 = q) (k : Go d own cc nL ret q (a0 :: some (.long x) :: r) (.long x :: st) h Q) : Go d own cc nL ret pc (a0 :: some (.long x) :: r) st h Q := by
  subst hq
  intro p l e s m args below meth c α cA D H locs ls C hP hS hl
  exact lv_lload_n C.1 C.2.1 hd rfl (hl.2.2 1 (.long x) rfl) (k p l e s m args below meth c α cA D H locs ls C hP hS hl)

theorem go_iload2 {d : Nat} {own : String} {cc : ByteArray} {nL : Nat} {ret : Option FieldType} {pc q : Nat} {st : List Value} {h : AH} {Q : Option Value → AH → Prop} {a0 a1 : Option Value} {r : List (Option Value)} {x : Int32} (hd : decode cc pc = .ok (.iload 2, 2)) (hq : pc + 2 = q) (k : Go d own cc nL ret q (a0 :: a1 :: some (.int x) :: r) (.int x :: st) h Q) : Go d own cc nL ret pc (a0 :: a1 :: some (.int x) :: r) st h Q := by
  subst hq
  intro p l e s m args below meth c α cA D H locs ls C hP hS hl
  exact lv_iload C.1 C.2.1 hd (hl.2.2 2 (.int x) rfl) (k p l e s m args below meth c α cA D H locs ls C hP hS hl)

theorem go_iloadn2 {d : Nat} {own : String} {cc : ByteArray} {nL : Nat} {ret : Option FieldType} {pc q : Nat} {st : List Value} {h : AH} {Q : Option Value → AH → Prop} {a0 a1 : Option Value} {r : List (Option Value)} {x : Int32} (hd : decode cc pc = .ok (.iload_n 2, 1)) (hq : pc + 1 = q) (k : Go d own cc nL ret q (a0 :: a1 :: some (.int x) :: r) (.int x :: st) h Q) : Go d own cc nL ret pc (a0 :: a1 :: some (.int x) :: r) st h Q := by
  subst hq
  intro p l e s m args below meth c α cA D H locs ls C hP hS hl
  exact lv_iload_n C.1 C.2.1 hd rfl (hl.2.2 2 (.int x) rfl) (k p l e s m args below meth c α cA D H locs ls C hP hS hl)

theorem go_aload2 {d : Nat} {own : String} {cc : ByteArray} {nL : Nat} {ret : Option FieldType} {pc q : Nat} {st : List Value} {h : AH} {Q : Option Value → AH → Prop} {a0 a1 : Option Value} {r : List (Option Value)} {x : Nat} (hd : decode cc pc = .ok (.aload 2, 2)) (hq : pc + 2 = q) (k : Go d own cc nL ret q (a0 :: a1 :: some (.ref x) :: r) (.ref x :: st) h Q) : Go d own cc nL ret pc (a0 :: a1 :: some (.ref x) :: r) st h Q := by
  subst hq
  intro p l e s m args below meth c α cA D H locs ls C hP hS hl
  exact lv_aload C.1 C.2.1 hd (hl.2.2 2 (.ref x) rfl) (k p l e s m args below meth c α cA D H locs ls C hP hS hl)

theorem go_aloadn2 {d : Nat} {own : String} {cc : ByteArray} {nL : Nat} {ret : Option FieldType} {pc q : Nat} {st : List Value} {h : AH} {Q : Option Value → AH → Prop} {a0 a1 : Option Value} {r : List (Option Value)} {x : Nat} (hd : decode cc pc = .ok (.aload_n 2, 1)) (hq : pc + 1 = q) (k : Go d own cc nL ret q (a0 :: a1 :: some (.ref x) :: r) (.ref x :: st) h Q) : Go d own cc nL ret pc (a0 :: a1 :: some (.ref x) :: r) st h Q := by
  subst hq
  intro p l e s m args below meth c α cA D H locs ls C hP hS hl
  exact lv_aload_n C.1 C.2.1 hd rfl (hl.2.2 2 (.ref x) rfl) (k p l e s m args below meth c α cA D H locs ls C hP hS hl)

theorem go_lload2 {d : Nat} {own : String} {cc : ByteArray} {nL : Nat} {ret : Option FieldType} {pc q : Nat} {st : List Value} {h : AH} {Q : Option Value → AH → Prop} {a0 a1 : Option Value} {r : List (Option Value)} {x : Int64} (hd : decode cc pc = .ok (.lload 2, 2)) (hq : pc + 2 = q) (k : Go d own cc nL ret q (a0 :: a1 :: some (.long x) :: r) (.long x :: st) h Q) : Go d own cc nL ret pc (a0 :: a1 :: some (.long x) :: r) st h Q := by
  subst hq
  intro p l e s m args below meth c α cA D H locs ls C hP hS hl
  exact lv_lload C.1 C.2.1 hd (hl.2.2 2 (.long x) rfl) (k p l e s m args below meth c α cA D H locs ls C hP hS hl)

theorem go_lloadn2 {d : Nat} {own : String} {cc : ByteArray} {nL : Nat} {ret : Option FieldType} {pc q : Nat} {st : List Value} {h : AH} {Q : Option Value → AH → Prop} {a0 a1 : Option Value} {r : List (Option Value)} {x : Int64} (hd : decode cc pc = .ok (.lload_n 2, 1)) (hq : pc + 1 = q) (k : Go d own cc nL ret q (a0 :: a1 :: some (.long x) :: r) (.long x :: st) h Q) : Go d own cc nL ret pc (a0 :: a1 :: some (.long x) :: r) st h Q := by
  subst hq
  intro p l e s m args below meth c α cA D H locs ls C hP hS hl
  exact lv_lload_n C.1 C.2.1 hd rfl (hl.2.2 2 (.long x) rfl) (k p l e s m args below meth c α cA D H locs ls C hP hS hl)

theorem go_iload3 {d : Nat} {own : String} {cc : ByteArray} {nL : Nat} {ret : Option FieldType} {pc q : Nat} {st : List Value} {h : AH} {Q : Option Value → AH → Prop} {a0 a1 a2 : Option Value} {r : List (Option Value)} {x : Int32} (hd : decode cc pc = .ok (.iload 3, 2)) (hq : pc + 2 = q) (k : Go d own cc nL ret q (a0 :: a1 :: a2 :: some (.int x) :: r) (.int x :: st) h Q) : Go d own cc nL ret pc (a0 :: a1 :: a2 :: some (.int x) :: r) st h Q := by
  subst hq
  intro p l e s m args below meth c α cA D H locs ls C hP hS hl
  exact lv_iload C.1 C.2.1 hd (hl.2.2 3 (.int x) rfl) (k p l e s m args below meth c α cA D H locs ls C hP hS hl)

theorem go_iloadn3 {d : Nat} {own : String} {cc : ByteArray} {nL : Nat} {ret : Option FieldType} {pc q : Nat} {st : List Value} {h : AH} {Q : Option Value → AH → Prop} {a0 a1 a2 : Option Value} {r : List (Option Value)} {x : Int32} (hd : decode cc pc = .ok (.iload_n 3, 1)) (hq : pc + 1 = q) (k : Go d own cc nL ret q (a0 :: a1 :: a2 :: some (.int x) :: r) (.int x :: st) h Q) : Go d own cc nL ret pc (a0 :: a1 :: a2 :: some (.int x) :: r) st h Q := by
  subst hq
  intro p l e s m args below meth c α cA D H locs ls C hP hS hl
  exact lv_iload_n C.1 C.2.1 hd rfl (hl.2.2 3 (.int x) rfl) (k p l e s m args below meth c α cA D H locs ls C hP hS hl)

theorem go_aload3 {d : Nat} {own : String} {cc : ByteArray} {nL : Nat} {ret : Option FieldType} {pc q : Nat} {st : List Value} {h : AH} {Q : Option Value → AH → Prop} {a0 a1 a2 : Option Value} {r : List (Option Value)} {x : Nat} (hd : decode cc pc = .ok (.aload 3, 2)) (hq : pc + 2 = q) (k : Go d own cc nL ret q (a0 :: a1 :: a2 :: some (.ref x) :: r) (.ref x :: st) h Q) : Go d own cc nL ret pc (a0 :: a1 :: a2 :: some (.ref x) :: r) st h Q := by
  subst hq
  intro p l e s m args below meth c α cA D H locs ls C hP hS hl
  exact lv_aload C.1 C.2.1 hd (hl.2.2 3 (.ref x) rfl) (k p l e s m args below meth c α cA D H locs ls C hP hS hl)

theorem go_aloadn3 {d : Nat} {own : String} {cc : ByteArray} {nL : Nat} {ret : Option FieldType} {pc q : Nat} {st : List Value} {h : AH} {Q : Option Value → AH → Prop} {a0 a1 a2 : Option Value} {r : List (Option Value)} {x : Nat} (hd : decode cc pc = .ok (.aload_n 3, 1)) (hq : pc + 1 = q) (k : Go d own cc nL ret q (a0 :: a1 :: a2 :: some (.ref x) :: r) (.ref x :: st) h Q) : Go d own cc nL ret pc (a0 :: a1 :: a2 :: some (.ref x) :: r) st h Q := by
  subst hq
  intro p l e s m args below meth c α cA D H locs ls C hP hS hl
  exact lv_aload_n C.1 C.2.1 hd rfl (hl.2.2 3 (.ref x) rfl) (k p l e s m args below meth c α cA D H locs ls C hP hS hl)

theorem go_lload3 {d : Nat} {own : String} {cc : ByteArray} {nL : Nat} {ret : Option FieldType} {pc q : Nat} {st : List Value} {h : AH} {Q : Option Value → AH → Prop} {a0 a1 a2 : Option Value} {r : List (Option Value)} {x : Int64} (hd : decode cc pc = .ok (.lload 3, 2)) (hq : pc + 2 = q) (k : Go d own cc nL ret q (a0 :: a1 :: a2 :: some (.long x) :: r) (.long x :: st) h Q) : Go d own cc nL ret pc (a0 :: a1 :: a2 :: some (.long x) :: r) st h Q := by
  subst hq
  intro p l e s m args below meth c α cA D H locs ls C hP hS hl
  exact lv_lload C.1 C.2.1 hd (hl.2.2 3 (.long x) rfl) (k p l e s m args below meth c α cA D H locs ls C hP hS hl)

theorem go_lloadn3 {d : Nat} {own : String} {cc : ByteArray} {nL : Nat} {ret : Option FieldType} {pc q : Nat} {st : List Value} {h : AH} {Q : Option Value → AH → Prop} {a0 a1 a2 : Option Value} {r : List (Option Value)} {x : Int64} (hd : decode cc pc = .ok (.lload_n 3, 1)) (hq : pc + 1 = q) (k : Go d own cc nL ret q (a0 :: a1 :: a2 :: some (.long x) :: r) (.long x :: st) h Q) : Go d own cc nL ret pc (a0 :: a1 :: a2 :: some (.long x) :: r) st h Q := by
  subst hq
  intro p l e s m args below meth c α cA D H locs ls C hP hS hl
  exact lv_lload_n C.1 C.2.1 hd rfl (hl.2.2 3 (.long x) rfl) (k p l e s m args below meth c α cA D H locs ls C hP hS hl)

theorem go_iload4 {d : Nat} {own : String} {cc : ByteArray} {nL : Nat} {ret : Option FieldType} {pc q : Nat} {st : List Value} {h : AH} {Q : Option Value → AH → Prop} {a0 a1 a2 a3 : Option Value} {r : List (Option Value)} {x : Int32} (hd : decode cc pc = .ok (.iload 4, 2)) (hq : pc + 2 = q) (k : Go d own cc nL ret q (a0 :: a1 :: a2 :: a3 :: some (.int x) :: r) (.int x :: st) h Q) : Go d own cc nL ret pc (a0 :: a1 :: a2 :: a3 :: some (.int x) :: r) st h Q := by
  subst hq
  intro p l e s m args below meth c α cA D H locs ls C hP hS hl
  exact lv_iload C.1 C.2.1 hd (hl.2.2 4 (.int x) rfl) (k p l e s m args below meth c α cA D H locs ls C hP hS hl)

theorem go_aload4 {d : Nat} {own : String} {cc : ByteArray} {nL : Nat} {ret : Option FieldType} {pc q : Nat} {st : List Value} {h : AH} {Q : Option Value → AH → Prop} {a0 a1 a2 a3 : Option Value} {r : List (Option Value)} {x : Nat} (hd : decode cc pc = .ok (.aload 4, 2)) (hq : pc + 2 = q) (k : Go d own cc nL ret q (a0 :: a1 :: a2 :: a3 :: some (.ref x) :: r) (.ref x :: st) h Q) : Go d own cc nL ret pc (a0 :: a1 :: a2 :: a3 :: some (.ref x) :: r) st h Q := by
  subst hq
  intro p l e s m args below meth c α cA D H locs ls C hP hS hl
  exact lv_aload C.1 C.2.1 hd (hl.2.2 4 (.ref x) rfl) (k p l e s m args below meth c α cA D H locs ls C hP hS hl)

theorem go_lload4 {d : Nat} {own : String} {cc : ByteArray} {nL : Nat} {ret : Option FieldType} {pc q : Nat} {st : List Value} {h : AH} {Q : Option Value → AH → Prop} {a0 a1 a2 a3 : Option Value} {r : List (Option Value)} {x : Int64} (hd : decode cc pc = .ok (.lload 4, 2)) (hq : pc + 2 = q) (k : Go d own cc nL ret q (a0 :: a1 :: a2 :: a3 :: some (.long x) :: r) (.long x :: st) h Q) : Go d own cc nL ret pc (a0 :: a1 :: a2 :: a3 :: some (.long x) :: r) st h Q := by
  subst hq
  intro p l e s m args below meth c α cA D H locs ls C hP hS hl
  exact lv_lload C.1 C.2.1 hd (hl.2.2 4 (.long x) rfl) (k p l e s m args below meth c α cA D H locs ls C hP hS hl)

theorem go_iload5 {d : Nat} {own : String} {cc : ByteArray} {nL : Nat} {ret : Option FieldType} {pc q : Nat} {st : List Value} {h : AH} {Q : Option Value → AH → Prop} {a0 a1 a2 a3 a4 : Option Value} {r : List (Option Value)} {x : Int32} (hd : decode cc pc = .ok (.iload 5, 2)) (hq : pc + 2 = q) (k : Go d own cc nL ret q (a0 :: a1 :: a2 :: a3 :: a4 :: some (.int x) :: r) (.int x :: st) h Q) : Go d own cc nL ret pc (a0 :: a1 :: a2 :: a3 :: a4 :: some (.int x) :: r) st h Q := by
  subst hq
  intro p l e s m args below meth c α cA D H locs ls C hP hS hl
  exact lv_iload C.1 C.2.1 hd (hl.2.2 5 (.int x) rfl) (k p l e s m args below meth c α cA D H locs ls C hP hS hl)

theorem go_aload5 {d : Nat} {own : String} {cc : ByteArray} {nL : Nat} {ret : Option FieldType} {pc q : Nat} {st : List Value} {h : AH} {Q : Option Value → AH → Prop} {a0 a1 a2 a3 a4 : Option Value} {r : List (Option Value)} {x : Nat} (hd : decode cc pc = .ok (.aload 5, 2)) (hq : pc + 2 = q) (k : Go d own cc nL ret q (a0 :: a1 :: a2 :: a3 :: a4 :: some (.ref x) :: r) (.ref x :: st) h Q) : Go d own cc nL ret pc (a0 :: a1 :: a2 :: a3 :: a4 :: some (.ref x) :: r) st h Q := by
  subst hq
  intro p l e s m args below meth c α cA D H locs ls C hP hS hl
  exact lv_aload C.1 C.2.1 hd (hl.2.2 5 (.ref x) rfl) (k p l e s m args below meth c α cA D H locs ls C hP hS hl)

theorem go_lload5 {d : Nat} {own : String} {cc : ByteArray} {nL : Nat} {ret : Option FieldType} {pc q : Nat} {st : List Value} {h : AH} {Q : Option Value → AH → Prop} {a0 a1 a2 a3 a4 : Option Value} {r : List (Option Value)} {x : Int64} (hd : decode cc pc = .ok (.lload 5, 2)) (hq : pc + 2 = q) (k : Go d own cc nL ret q (a0 :: a1 :: a2 :: a3 :: a4 :: some (.long x) :: r) (.long x :: st) h Q) : Go d own cc nL ret pc (a0 :: a1 :: a2 :: a3 :: a4 :: some (.long x) :: r) st h Q := by
  subst hq
  intro p l e s m args below meth c α cA D H locs ls C hP hS hl
  exact lv_lload C.1 C.2.1 hd (hl.2.2 5 (.long x) rfl) (k p l e s m args below meth c α cA D H locs ls C hP hS hl)

theorem go_iload6 {d : Nat} {own : String} {cc : ByteArray} {nL : Nat} {ret : Option FieldType} {pc q : Nat} {st : List Value} {h : AH} {Q : Option Value → AH → Prop} {a0 a1 a2 a3 a4 a5 : Option Value} {r : List (Option Value)} {x : Int32} (hd : decode cc pc = .ok (.iload 6, 2)) (hq : pc + 2 = q) (k : Go d own cc nL ret q (a0 :: a1 :: a2 :: a3 :: a4 :: a5 :: some (.int x) :: r) (.int x :: st) h Q) : Go d own cc nL ret pc (a0 :: a1 :: a2 :: a3 :: a4 :: a5 :: some (.int x) :: r) st h Q := by
  subst hq
  intro p l e s m args below meth c α cA D H locs ls C hP hS hl
  exact lv_iload C.1 C.2.1 hd (hl.2.2 6 (.int x) rfl) (k p l e s m args below meth c α cA D H locs ls C hP hS hl)

theorem go_aload6 {d : Nat} {own : String} {cc : ByteArray} {nL : Nat} {ret : Option FieldType} {pc q : Nat} {st : List Value} {h : AH} {Q : Option Value → AH → Prop} {a0 a1 a2 a3 a4 a5 : Option Value} {r : List (Option Value)} {x : Nat} (hd : decode cc pc = .ok (.aload 6, 2)) (hq : pc + 2 = q) (k : Go d own cc nL ret q (a0 :: a1 :: a2 :: a3 :: a4 :: a5 :: some (.ref x) :: r) (.ref x :: st) h Q) : Go d own cc nL ret pc (a0 :: a1 :: a2 :: a3 :: a4 :: a5 :: some (.ref x) :: r) st h Q := by
  subst hq
  intro p l e s m args below meth c α cA D H locs ls C hP hS hl
  exact lv_aload C.1 C.2.1 hd (hl.2.2 6 (.ref x) rfl) (k p l e s m args below meth c α cA D H locs ls C hP hS hl)

theorem go_lload6 {d : Nat} {own : String} {cc : ByteArray} {nL : Nat} {ret : Option FieldType} {pc q : Nat} {st : List Value} {h : AH} {Q : Option Value → AH → Prop} {a0 a1 a2 a3 a4 a5 : Option Value} {r : List (Option Value)} {x : Int64} (hd : decode cc pc = .ok (.lload 6, 2)) (hq : pc + 2 = q) (k : Go d own cc nL ret q (a0 :: a1 :: a2 :: a3 :: a4 :: a5 :: some (.long x) :: r) (.long x :: st) h Q) : Go d own cc nL ret pc (a0 :: a1 :: a2 :: a3 :: a4 :: a5 :: some (.long x) :: r) st h Q := by
  subst hq
  intro p l e s m args below meth c α cA D H locs ls C hP hS hl
  exact lv_lload C.1 C.2.1 hd (hl.2.2 6 (.long x) rfl) (k p l e s m args below meth c α cA D H locs ls C hP hS hl)

theorem go_iload7 {d : Nat} {own : String} {cc : ByteArray} {nL : Nat} {ret : Option FieldType} {pc q : Nat} {st : List Value} {h : AH} {Q : Option Value → AH → Prop} {a0 a1 a2 a3 a4 a5 a6 : Option Value} {r : List (Option Value)} {x : Int32} (hd : decode cc pc = .ok (.iload 7, 2)) (hq : pc + 2 = q) (k : Go d own cc nL ret q (a0 :: a1 :: a2 :: a3 :: a4 :: a5 :: a6 :: some (.int x) :: r) (.int x :: st) h Q) : Go d own cc nL ret pc (a0 :: a1 :: a2 :: a3 :: a4 :: a5 :: a6 :: some (.int x) :: r) st h Q := by
  subst hq
  intro p l e s m args below meth c α cA D H locs ls C hP hS hl
  exact lv_iload C.1 C.2.1 hd (hl.2.2 7 (.int x) rfl) (k p l e s m args below meth c α cA D H locs ls C hP hS hl)

theorem go_aload7 {d : Nat} {own : String} {cc : ByteArray} {nL : Nat} {ret : Option FieldType} {pc q : Nat} {st : List Value} {h : AH} {Q : Option Value → AH → Prop} {a0 a1 a2 a3 a4 a5 a6 : Option Value} {r : List (Option Value)} {x : Nat} (hd : decode cc pc = .ok (.aload 7, 2)) (hq : pc + 2 = q) (k : Go d own cc nL ret q (a0 :: a1 :: a2 :: a3 :: a4 :: a5 :: a6 :: some (.ref x) :: r) (.ref x :: st) h Q) : Go d own cc nL ret pc (a0 :: a1 :: a2 :: a3 :: a4 :: a5 :: a6 :: some (.ref x) :: r) st h Q := by
  subst hq
  intro p l e s m args below meth c α cA D H locs ls C hP hS hl
  exact lv_aload C.1 C.2.1 hd (hl.2.2 7 (.ref x) rfl) (k p l e s m args below meth c α cA D H locs ls C hP hS hl)

theorem go_lload7 {d : Nat} {own : String} {cc : ByteArray} {nL : Nat} {ret : Option FieldType} {pc q : Nat} {st : List Value} {h : AH} {Q : Option Value → AH → Prop} {a0 a1 a2 a3 a4 a5 a6 : Option Value} {r : List (Option Value)} {x : Int64} (hd : decode cc pc = .ok (.lload 7, 2)) (hq : pc + 2 = q) (k : Go d own cc nL ret q (a0 :: a1 :: a2 :: a3 :: a4 :: a5 :: a6 :: some (.long x) :: r) (.long x :: st) h Q) : Go d own cc nL ret pc (a0 :: a1 :: a2 :: a3 :: a4 :: a5 :: a6 :: some (.long x) :: r) st h Q := by
  subst hq
  intro p l e s m args below meth c α cA D H locs ls C hP hS hl
  exact lv_lload C.1 C.2.1 hd (hl.2.2 7 (.long x) rfl) (k p l e s m args below meth c α cA D H locs ls C hP hS hl)

theorem go_iload8 {d : Nat} {own : String} {cc : ByteArray} {nL : Nat} {ret : Option FieldType} {pc q : Nat} {st : List Value} {h : AH} {Q : Option Value → AH → Prop} {a0 a1 a2 a3 a4 a5 a6 a7 : Option Value} {r : List (Option Value)} {x : Int32} (hd : decode cc pc = .ok (.iload 8, 2)) (hq : pc + 2 = q) (k : Go d own cc nL ret q (a0 :: a1 :: a2 :: a3 :: a4 :: a5 :: a6 :: a7 :: some (.int x) :: r) (.int x :: st) h Q) : Go d own cc nL ret pc (a0 :: a1 :: a2 :: a3 :: a4 :: a5 :: a6 :: a7 :: some (.int x) :: r) st h Q := by
  subst hq
  intro p l e s m args below meth c α cA D H locs ls C hP hS hl
  exact lv_iload C.1 C.2.1 hd (hl.2.2 8 (.int x) rfl) (k p l e s m args below meth c α cA D H locs ls C hP hS hl)

theorem go_aload8 {d : Nat} {own : String} {cc : ByteArray} {nL : Nat} {ret : Option FieldType} {pc q : Nat} {st : List Value} {h : AH} {Q : Option Value → AH → Prop} {a0 a1 a2 a3 a4 a5 a6 a7 : Option Value} {r : List (Option Value)} {x : Nat} (hd : decode cc pc = .ok (.aload 8, 2)) (hq : pc + 2 = q) (k : Go d own cc nL ret q (a0 :: a1 :: a2 :: a3 :: a4 :: a5 :: a6 :: a7 :: some (.ref x) :: r) (.ref x :: st) h Q) : Go d own cc nL ret pc (a0 :: a1 :: a2 :: a3 :: a4 :: a5 :: a6 :: a7 :: some (.ref x) :: r) st h Q := by
  subst hq
  intro p l e s m args below meth c α cA D H locs ls C hP hS hl
  exact lv_aload C.1 C.2.1 hd (hl.2.2 8 (.ref x) rfl) (k p l e s m args below meth c α cA D H locs ls C hP hS hl)

theorem go_lload8 {d : Nat} {own : String} {cc : ByteArray} {nL : Nat} {ret : Option FieldType} {pc q : Nat} {st : List Value} {h : AH} {Q : Option Value → AH → Prop} {a0 a1 a2 a3 a4 a5 a6 a7 : Option Value} {r : List (Option Value)} {x : Int64} (hd : decode cc pc = .ok (.lload 8, 2)) (hq : pc + 2 = q) (k : Go d own cc nL ret q (a0 :: a1 :: a2 :: a3 :: a4 :: a5 :: a6 :: a7 :: some (.long x) :: r) (.long x :: st) h Q) : Go d own cc nL ret pc (a0 :: a1 :: a2 :: a3 :: a4 :: a5 :: a6 :: a7 :: some (.long x) :: r) st h Q := by
  subst hq
  intro p l e s m args below meth c α cA D H locs ls C hP hS hl
  exact lv_lload C.1 C.2.1 hd (hl.2.2 8 (.long x) rfl) (k p l e s m args below meth c α cA D H locs ls C hP hS hl)

theorem go_iload9 {d : Nat} {own : String} {cc : ByteArray} {nL : Nat} {ret : Option FieldType} {pc q : Nat} {st : List Value} {h : AH} {Q : Option Value → AH → Prop} {a0 a1 a2 a3 a4 a5 a6 a7 a8 : Option Value} {r : List (Option Value)} {x : Int32} (hd : decode cc pc = .ok (.iload 9, 2)) (hq : pc + 2 = q) (k : Go d own cc nL ret q (a0 :: a1 :: a2 :: a3 :: a4 :: a5 :: a6 :: a7 :: a8 :: some (.int x) :: r) (.int x :: st) h Q) : Go d own cc nL ret pc (a0 :: a1 :: a2 :: a3 :: a4 :: a5 :: a6 :: a7 :: a8 :: some (.int x) :: r) st h Q := by
  subst hq
  intro p l e s m args below meth c α cA D H locs ls C hP hS hl
  exact lv_iload C.1 C.2.1 hd (hl.2.2 9 (.int x) rfl) (k p l e s m args below meth c α cA D H locs ls C hP hS hl)

theorem go_aload9 {d : Nat} {own : String} {cc : ByteArray} {nL : Nat} {ret : Option FieldType} {pc q : Nat} {st : List Value} {h : AH} {Q : Option Value → AH → Prop} {a0 a1 a2 a3 a4 a5 a6 a7 a8 : Option Value} {r : List (Option Value)} {x : Nat} (hd : decode cc pc = .ok (.aload 9, 2)) (hq : pc + 2 = q) (k : Go d own cc nL ret q (a0 :: a1 :: a2 :: a3 :: a4 :: a5 :: a6 :: a7 :: a8 :: some (.ref x) :: r) (.ref x :: st) h Q) : Go d own cc nL ret pc (a0 :: a1 :: a2 :: a3 :: a4 :: a5 :: a6 :: a7 :: a8 :: some (.ref x) :: r) st h Q := by
  subst hq
  intro p l e s m args below meth c α cA D H locs ls C hP hS hl
  exact lv_aload C.1 C.2.1 hd (hl.2.2 9 (.ref x) rfl) (k p l e s m args below meth c α cA D H locs ls C hP hS hl)

theorem go_lload9 {d : Nat} {own : String} {cc : ByteArray} {nL : Nat} {ret : Option FieldType} {pc q : Nat} {st : List Value} {h : AH} {Q : Option Value → AH → Prop} {a0 a1 a2 a3 a4 a5 a6 a7 a8 : Option Value} {r : List (Option Value)} {x : Int64} (hd : decode cc pc = .ok (.lload 9, 2)) (hq : pc + 2 = q) (k : Go d own cc nL ret q (a0 :: a1 :: a2 :: a3 :: a4 :: a5 :: a6 :: a7 :: a8 :: some (.long x) :: r) (.long x :: st) h Q) : Go d own cc nL ret pc (a0 :: a1 :: a2 :: a3 :: a4 :: a5 :: a6 :: a7 :: a8 :: some (.long x) :: r) st h Q := by
  subst hq
  intro p l e s m args below meth c α cA D H locs ls C hP hS hl
  exact lv_lload C.1 C.2.1 hd (hl.2.2 9 (.long x) rfl) (k p l e s m args below meth c α cA D H locs ls C hP hS hl)

theorem go_iload10 {d : Nat} {own : String} {cc : ByteArray} {nL : Nat} {ret : Option FieldType} {pc q : Nat} {st : List Value} {h : AH} {Q : Option Value → AH → Prop} {a0 a1 a2 a3 a4 a5 a6 a7 a8 a9 : Option Value} {r : List (Option Value)} {x : Int32} (hd : decode cc pc = .ok (.iload 10, 2)) (hq : pc + 2 = q) (k : Go d own cc nL ret q (a0 :: a1 :: a2 :: a3 :: a4 :: a5 :: a6 :: a7 :: a8 :: a9 :: some (.int x) :: r) (.int x :: st) h Q) : Go d own cc nL ret pc (a0 :: a1 :: a2 :: a3 :: a4 :: a5 :: a6 :: a7 :: a8 :: a9 :: some (.int x) :: r) st h Q := by
  subst hq
  intro p l e s m args below meth c α cA D H locs ls C hP hS hl
  exact lv_iload C.1 C.2.1 hd (hl.2.2 10 (.int x) rfl) (k p l e s m args below meth c α cA D H locs ls C hP hS hl)

theorem go_aload10 {d : Nat} {own : String} {cc : ByteArray} {nL : Nat} {ret : Option FieldType} {pc q : Nat} {st : List Value} {h : AH} {Q : Option Value → AH → Prop} {a0 a1 a2 a3 a4 a5 a6 a7 a8 a9 : Option Value} {r : List (Option Value)} {x : Nat} (hd : decode cc pc = .ok (.aload 10, 2)) (hq : pc + 2 = q) (k : Go d own cc nL ret q (a0 :: a1 :: a2 :: a3 :: a4 :: a5 :: a6 :: a7 :: a8 :: a9 :: some (.ref x) :: r) (.ref x :: st) h Q) : Go d own cc nL ret pc (a0 :: a1 :: a2 :: a3 :: a4 :: a5 :: a6 :: a7 :: a8 :: a9 :: some (.ref x) :: r) st h Q := by
  subst hq
  intro p l e s m args below meth c α cA D H locs ls C hP hS hl
  exact lv_aload C.1 C.2.1 hd (hl.2.2 10 (.ref x) rfl) (k p l e s m args below meth c α cA D H locs ls C hP hS hl)

theorem go_lload10 {d : Nat} {own : String} {cc : ByteArray} {nL : Nat} {ret : Option FieldType} {pc q : Nat} {st : List Value} {h : AH} {Q : Option Value → AH → Prop} {a0 a1 a2 a3 a4 a5 a6 a7 a8 a9 : Option Value} {r : List (Option Value)} {x : Int64} (hd : decode cc pc = .ok (.lload 10, 2)) (hq : pc + 2 = q) (k : Go d own cc nL ret q (a0 :: a1 :: a2 :: a3 :: a4 :: a5 :: a6 :: a7 :: a8 :: a9 :: some (.long x) :: r) (.long x :: st) h Q) : Go d own cc nL ret pc (a0 :: a1 :: a2 :: a3 :: a4 :: a5 :: a6 :: a7 :: a8 :: a9 :: some (.long x) :: r) st h Q := by
  subst hq
  intro p l e s m args below meth c α cA D H locs ls C hP hS hl
  exact lv_lload C.1 C.2.1 hd (hl.2.2 10 (.long x) rfl) (k p l e s m args below meth c α cA D H locs ls C hP hS hl)

theorem go_iload11 {d : Nat} {own : String} {cc : ByteArray} {nL : Nat} {ret : Option FieldType} {pc q : Nat} {st : List Value} {h : AH} {Q : Option Value → AH → Prop} {a0 a1 a2 a3 a4 a5 a6 a7 a8 a9 a10 : Option Value} {r : List (Option Value)} {x : Int32} (hd : decode cc pc = .ok (.iload 11, 2)) (hq : pc + 2 = q) (k : Go d own cc nL ret q (a0 :: a1 :: a2 :: a3 :: a4 :: a5 :: a6 :: a7 :: a8 :: a9 :: a10 :: some (.int x) :: r) (.int x :: st) h Q) : Go d own cc nL ret pc (a0 :: a1 :: a2 :: a3 :: a4 :: a5 :: a6 :: a7 :: a8 :: a9 :: a10 :: some (.int x) :: r) st h Q := by
  subst hq
  intro p l e s m args below meth c α cA D H locs ls C hP hS hl
  exact lv_iload C.1 C.2.1 hd (hl.2.2 11 (.int x) rfl) (k p l e s m args below meth c α cA D H locs ls C hP hS hl)

theorem go_aload11 {d : Nat} {own : String} {cc : ByteArray} {nL : Nat} {ret : Option FieldType} {pc q : Nat} {st : List Value} {h : AH} {Q : Option Value → AH → Prop} {a0 a1 a2 a3 a4 a5 a6 a7 a8 a9 a10 : Option Value} {r : List (Option Value)} {x : Nat} (hd : decode cc pc = .ok (.aload 11, 2)) (hq : pc + 2 = q) (k : Go d own cc nL ret q (a0 :: a1 :: a2 :: a3 :: a4 :: a5 :: a6 :: a7 :: a8 :: a9 :: a10 :: some (.ref x) :: r) (.ref x :: st) h Q) : Go d own cc nL ret pc (a0 :: a1 :: a2 :: a3 :: a4 :: a5 :: a6 :: a7 :: a8 :: a9 :: a10 :: some (.ref x) :: r) st h Q := by
  subst hq
  intro p l e s m args below meth c α cA D H locs ls C hP hS hl
  exact lv_aload C.1 C.2.1 hd (hl.2.2 11 (.ref x) rfl) (k p l e s m args below meth c α cA D H locs ls C hP hS hl)

theorem go_lload11 {d : Nat} {own : String} {cc : ByteArray} {nL : Nat} {ret : Option FieldType} {pc q : Nat} {st : List Value} {h : AH} {Q : Option Value → AH → Prop} {a0 a1 a2 a3 a4 a5 a6 a7 a8 a9 a10 : Option Value} {r : List (Option Value)} {x : Int64} (hd : decode cc pc = .ok (.lload 11, 2)) (hq : pc + 2 = q) (k : Go d own cc nL ret q (a0 :: a1 :: a2 :: a3 :: a4 :: a5 :: a6 :: a7 :: a8 :: a9 :: a10 :: some (.long x) :: r) (.long x :: st) h Q) : Go d own cc nL ret pc (a0 :: a1 :: a2 :: a3 :: a4 :: a5 :: a6 :: a7 :: a8 :: a9 :: a10 :: some (.long x) :: r) st h Q := by
  subst hq
  intro p l e s m args below meth c α cA D H locs ls C hP hS hl
  exact lv_lload C.1 C.2.1 hd (hl.2.2 11 (.long x) rfl) (k p l e s m args below meth c α cA D H locs ls C hP hS hl)

def okp (o : Option Value) : Bool := match o with
  | some (.long _) => false
  | some (.double _) => false
  | _ => true
def lp (α : Nat → Nat) (lo : List (Option Value)) : List (Nat × Value) := (List.range lo.length).filterMap (fun j => match lo[j]? with | some (some w) => some (j, cV α w) | _ => none)
theorem lp_mem {α : Nat → Nat} {lo : List (Option Value)} {j : Nat} {w : Value} (hj : lo[j]? = some (some w)) : (j, cV α w) ∈ lp α lo :=
  List.mem_filterMap.mpr ⟨j, List.mem_range.mpr ((List.getElem?_eq_some_iff.mp hj).1), by rw [hj]⟩
theorem LO.pairs {α : Nat → Nat} {ls : Array Slot} {nL : Nat} {lo : List (Option Value)} (hl : LO α ls nL lo) : lv_has ls nL (lp α lo) := by
  refine ⟨hl.1, hl.2.1, fun q hq => ?_⟩
  obtain ⟨j, -, hj⟩ := List.mem_filterMap.mp hq
  split at hj
  next w hw => cases hj; exact hl.2.2 j w hw
  next => cases hj
theorem okp_cat {α : Nat → Nat} {w : Value} (h : okp (some w) = true) : (cV α w).category = 1 := by
  rw [cV_cat]
  cases w <;> first | rfl | (simp [okp] at h)
theorem LO.of1 {α : Nat → Nat} {ls : Array Slot} {nL i : Nat} {lo : List (Option Value)} {v : Value} (h2 : lv_has ls nL ((i, cV α v) :: (lp α lo).filter (fun q => !(q.1 == i) && !(q.1 + 1 == i && q.2.category == 2)))) (hp : ∀ (w : Value), 0 < i → lo[i - 1]? = some (some w) → okp (some w) = true) : LO α ls nL (lo.set i (some v)) := by
  refine ⟨h2.1, h2.2.1, fun j w hj => ?_⟩
  rw [List.getElem?_set] at hj
  by_cases hij : i = j
  · subst hij
    rw [if_pos rfl] at hj
    split at hj
    · cases hj
      exact h2.2.2 (i, cV α v) List.mem_cons_self
    · cases hj
  · rw [if_neg hij] at hj
    refine h2.2.2 (j, cV α w) (List.mem_cons_of_mem _ (List.mem_filter.mpr ⟨lp_mem hj, ?_⟩))
    simp only [Bool.and_eq_true, Bool.not_eq_true', beq_eq_false_iff_ne, ne_eq]
    refine ⟨fun q => hij q.symm, ?_⟩
    by_cases h3 : j + 1 = i
    · have := okp_cat (α := α) (hp w (by omega) (by rw [show i - 1 = j by omega]; exact hj))
      simp [this]
    · simp [h3]
theorem LO.of2 {α : Nat → Nat} {ls : Array Slot} {nL i : Nat} {lo : List (Option Value)} {v : Value} (h2 : lv_has ls nL ((i, cV α v) :: (lp α lo).filter (fun q => !(q.1 == i) && (!(q.1 == i + 1) && !(q.1 + 1 == i && q.2.category == 2))))) (hp : ∀ (w : Value), 0 < i → lo[i - 1]? = some (some w) → okp (some w) = true) : LO α ls nL ((lo.set i (some v)).set (i + 1) none) := by
  refine ⟨h2.1, h2.2.1, fun j w hj => ?_⟩
  rw [List.getElem?_set] at hj
  by_cases hij2 : i + 1 = j
  · rw [if_pos hij2] at hj
    split at hj <;> cases hj
  rw [if_neg hij2, List.getElem?_set] at hj
  by_cases hij : i = j
  · subst hij
    rw [if_pos rfl] at hj
    split at hj
    · cases hj
      exact h2.2.2 (i, cV α v) List.mem_cons_self
    · cases hj
  · rw [if_neg hij] at hj
    refine h2.2.2 (j, cV α w) (List.mem_cons_of_mem _ (List.mem_filter.mpr ⟨lp_mem hj, ?_⟩))
    simp only [Bool.and_eq_true, Bool.not_eq_true', beq_eq_false_iff_ne, ne_eq]
    refine ⟨fun q => hij q.symm, fun q => hij2 q.symm, ?_⟩
    by_cases h3 : j + 1 = i
    · have := okp_cat (α := α) (hp w (by omega) (by rw [show i - 1 = j by omega]; exact hj))
      simp [this]
    · simp [h3]

theorem go_istore0 {d : Nat} {own : String} {cc : ByteArray} {nL : Nat} {ret : Option FieldType} {pc q : Nat} {st : List Value} {h : AH} {Q : Option Value → AH → Prop} {a0 : Option Value} {r : List (Option Value)} {x : Int32} (hd : decode cc pc = .ok (.istore 0, 2)) (hn : 0 < nL) (hq : pc + 2 = q) (k : Go d own cc nL ret q (some (.int x) :: r) st h Q) : Go d own cc nL ret pc (a0 :: r) (.int x :: st) h Q := by
  subst hq
  intro p l e s m args below meth c α cA D H locs ls C hP hS hl
  exact lv_istore C.1 C.2.1 hd (LO.pairs hl) hn rfl (fun ls hl2 => k p l e s m args below meth c α cA D H locs ls C hP hS (LO.of1 (v := .int x) hl2 (fun w h0 _ => absurd h0 (Nat.lt_irrefl 0))))

theorem go_istoren0 {d : Nat} {own : String} {cc : ByteArray} {nL : Nat} {ret : Option FieldType} {pc q : Nat} {st : List Value} {h : AH} {Q : Option Value → AH → Prop} {a0 : Option Value} {r : List (Option Value)} {x : Int32} (hd : decode cc pc = .ok (.istore_n 0, 1)) (hn : 0 < nL) (hq : pc + 1 = q) (k : Go d own cc nL ret q (some (.int x) :: r) st h Q) : Go d own cc nL ret pc (a0 :: r) (.int x :: st) h Q := by
  subst hq
  intro p l e s m args below meth c α cA D H locs ls C hP hS hl
  exact lv_istore_n C.1 C.2.1 hd rfl (LO.pairs hl) hn rfl (fun ls hl2 => k p l e s m args below meth c α cA D H locs ls C hP hS (LO.of1 (v := .int x) hl2 (fun w h0 _ => absurd h0 (Nat.lt_irrefl 0))))

theorem go_astore0 {d : Nat} {own : String} {cc : ByteArray} {nL : Nat} {ret : Option FieldType} {pc q : Nat} {st : List Value} {h : AH} {Q : Option Value → AH → Prop} {a0 : Option Value} {r : List (Option Value)} {x : Nat} (hd : decode cc pc = .ok (.astore 0, 2)) (hn : 0 < nL) (hq : pc + 2 = q) (k : Go d own cc nL ret q (some (.ref x) :: r) st h Q) : Go d own cc nL ret pc (a0 :: r) (.ref x :: st) h Q := by
  subst hq
  intro p l e s m args below meth c α cA D H locs ls C hP hS hl
  exact lv_astore C.1 C.2.1 hd (LO.pairs hl) hn rfl (fun ls hl2 => k p l e s m args below meth c α cA D H locs ls C hP hS (LO.of1 (v := .ref x) hl2 (fun w h0 _ => absurd h0 (Nat.lt_irrefl 0))))

theorem go_astoren0 {d : Nat} {own : String} {cc : ByteArray} {nL : Nat} {ret : Option FieldType} {pc q : Nat} {st : List Value} {h : AH} {Q : Option Value → AH → Prop} {a0 : Option Value} {r : List (Option Value)} {x : Nat} (hd : decode cc pc = .ok (.astore_n 0, 1)) (hn : 0 < nL) (hq : pc + 1 = q) (k : Go d own cc nL ret q (some (.ref x) :: r) st h Q) : Go d own cc nL ret pc (a0 :: r) (.ref x :: st) h Q := by
  subst hq
  intro p l e s m args below meth c α cA D H locs ls C hP hS hl
  exact lv_astore_n C.1 C.2.1 hd rfl (LO.pairs hl) hn rfl (fun ls hl2 => k p l e s m args below meth c α cA D H locs ls C hP hS (LO.of1 (v := .ref x) hl2 (fun w h0 _ => absurd h0 (Nat.lt_irrefl 0))))

theorem go_lstore0 {d : Nat} {own : String} {cc : ByteArray} {nL : Nat} {ret : Option FieldType} {pc q : Nat} {st : List Value} {h : AH} {Q : Option Value → AH → Prop} {a0 : Option Value} {b : Option Value} {r : List (Option Value)} {x : Int64} (hd : decode cc pc = .ok (.lstore 0, 2)) (hn : 0 + 1 < nL) (hq : pc + 2 = q) (k : Go d own cc nL ret q (some (.long x) :: none :: r) st h Q) : Go d own cc nL ret pc (a0 :: b :: r) (.long x :: st) h Q := by
  subst hq
  intro p l e s m args below meth c α cA D H locs ls C hP hS hl
  exact lv_lstore C.1 C.2.1 hd (LO.pairs hl) hn rfl (fun ls hl2 => k p l e s m args below meth c α cA D H locs ls C hP hS (LO.of2 (v := .long x) hl2 (fun w h0 _ => absurd h0 (Nat.lt_irrefl 0))))

theorem go_lstoren0 {d : Nat} {own : String} {cc : ByteArray} {nL : Nat} {ret : Option FieldType} {pc q : Nat} {st : List Value} {h : AH} {Q : Option Value → AH → Prop} {a0 : Option Value} {b : Option Value} {r : List (Option Value)} {x : Int64} (hd : decode cc pc = .ok (.lstore_n 0, 1)) (hn : 0 + 1 < nL) (hq : pc + 1 = q) (k : Go d own cc nL ret q (some (.long x) :: none :: r) st h Q) : Go d own cc nL ret pc (a0 :: b :: r) (.long x :: st) h Q := by
  subst hq
  intro p l e s m args below meth c α cA D H locs ls C hP hS hl
  exact lv_lstore_n C.1 C.2.1 hd rfl (LO.pairs hl) hn rfl (fun ls hl2 => k p l e s m args below meth c α cA D H locs ls C hP hS (LO.of2 (v := .long x) hl2 (fun w h0 _ => absurd h0 (Nat.lt_irrefl 0))))

theorem go_iinc0 {d : Nat} {own : String} {cc : ByteArray} {nL : Nat} {ret : Option FieldType} {pc q : Nat} {st : List Value} {h : AH} {Q : Option Value → AH → Prop} {r : List (Option Value)} {x : Int32} {n : Int} (hd : decode cc pc = .ok (.iinc 0 n, 3)) (hn : 0 < nL) (hq : pc + 3 = q) (k : Go d own cc nL ret q (some (.int (x + Int32.ofInt n)) :: r) st h Q) : Go d own cc nL ret pc (some (.int x) :: r) st h Q := by
  subst hq
  intro p l e s m args below meth c α cA D H locs ls C hP hS hl
  obtain ⟨kk, hkk⟩ := List.getElem?_of_mem (lp_mem (lo := (some (.int x) :: r)) (α := α) (j := 0) (w := .int x) rfl)
  exact lv_iinc C.1 C.2.1 hd (LO.pairs hl) hkk rfl hn rfl (fun ls hl2 => k p l e s m args below meth c α cA D H locs ls C hP hS (LO.of1 (v := .int (x + Int32.ofInt n)) hl2 (fun w h0 _ => absurd h0 (Nat.lt_irrefl 0))))

theorem go_iincN0 {d : Nat} {own : String} {cc : ByteArray} {nL : Nat} {ret : Option FieldType} {pc q : Nat} {st : List Value} {h : AH} {Q : Option Value → AH → Prop} {r : List (Option Value)} {x : Nat} {n : Nat} (hd : decode cc pc = .ok (.iinc 0 (n : Nat), 3)) (hn : 0 < nL) (hq : pc + 3 = q) (k : Go d own cc nL ret q (some (.int (nI (x + n))) :: r) st h Q) : Go d own cc nL ret pc (some (.int (nI x)) :: r) st h Q := by
  subst hq
  intro p l e s m args below meth c α cA D H locs ls C hP hS hl
  obtain ⟨kk, hkk⟩ := List.getElem?_of_mem (lp_mem (lo := (some (.int (nI x)) :: r)) (α := α) (j := 0) (w := .int (nI x)) rfl)
  exact lv_iinc C.1 C.2.1 hd (LO.pairs hl) hkk (nI_add x n) hn rfl (fun ls hl2 => k p l e s m args below meth c α cA D H locs ls C hP hS (LO.of1 (v := .int (nI (x + n))) hl2 (fun w h0 _ => absurd h0 (Nat.lt_irrefl 0))))

theorem go_istore1 {d : Nat} {own : String} {cc : ByteArray} {nL : Nat} {ret : Option FieldType} {pc q : Nat} {st : List Value} {h : AH} {Q : Option Value → AH → Prop} {a0 a1 : Option Value} {r : List (Option Value)} {x : Int32} (hd : decode cc pc = .ok (.istore 1, 2)) (hp : okp a0 = true) (hn : 1 < nL) (hq : pc + 2 = q) (k : Go d own cc nL ret q (a0 :: some (.int x) :: r) st h Q) : Go d own cc nL ret pc (a0 :: a1 :: r) (.int x :: st) h Q := by
  subst hq
  intro p l e s m args below meth c α cA D H locs ls C hP hS hl
  exact lv_istore C.1 C.2.1 hd (LO.pairs hl) hn rfl (fun ls hl2 => k p l e s m args below meth c α cA D H locs ls C hP hS (LO.of1 (v := .int x) hl2 (fun w _ hw => by have hw2 : a0 = some w := Option.some.inj hw; rw [← hw2]; exact hp)))

theorem go_istoren1 {d : Nat} {own : String} {cc : ByteArray} {nL : Nat} {ret : Option FieldType} {pc q : Nat} {st : List Value} {h : AH} {Q : Option Value → AH → Prop} {a0 a1 : Option Value} {r : List (Option Value)} {x : Int32} (hd : decode cc pc = .ok (.istore_n 1, 1)) (hp : okp a0 = true) (hn : 1 < nL) (hq : pc + 1 = q) (k : Go d own cc nL ret q (a0 :: some (.int x) :: r) st h Q) : Go d own cc nL ret pc (a0 :: a1 :: r) (.int x :: st) h Q := by
  subst hq
  intro p l e s m args below meth c α cA D H locs ls C hP hS hl
  exact lv_istore_n C.1 C.2.1 hd rfl (LO.pairs hl) hn rfl (fun ls hl2 => k p l e s m args below meth c α cA D H locs ls C hP hS (LO.of1 (v := .int x) hl2 (fun w _ hw => by have hw2 : a0 = some w := Option.some.inj hw; rw [← hw2]; exact hp)))

theorem go_astore1 {d : Nat} {own : String} {cc : ByteArray} {nL : Nat} {ret : Option FieldType} {pc q : Nat} {st : List Value} {h : AH} {Q : Option Value → AH → Prop} {a0 a1 : Option Value} {r : List (Option Value)} {x : Nat} (hd : decode cc pc = .ok (.astore 1, 2)) (hp : okp a0 = true) (hn : 1 < nL) (hq : pc + 2 = q) (k : Go d own cc nL ret q (a0 :: some (.ref x) :: r) st h Q) : Go d own cc nL ret pc (a0 :: a1 :: r) (.ref x :: st) h Q := by
  subst hq
  intro p l e s m args below meth c α cA D H locs ls C hP hS hl
  exact lv_astore C.1 C.2.1 hd (LO.pairs hl) hn rfl (fun ls hl2 => k p l e s m args below meth c α cA D H locs ls C hP hS (LO.of1 (v := .ref x) hl2 (fun w _ hw => by have hw2 : a0 = some w := Option.some.inj hw; rw [← hw2]; exact hp)))

theorem go_astoren1 {d : Nat} {own : String} {cc : ByteArray} {nL : Nat} {ret : Option FieldType} {pc q : Nat} {st : List Value} {h : AH} {Q : Option Value → AH → Prop} {a0 a1 : Option Value} {r : List (Option Value)} {x : Nat} (hd : decode cc pc = .ok (.astore_n 1, 1)) (hp : okp a0 = true) (hn : 1 < nL) (hq : pc + 1 = q) (k : Go d own cc nL ret q (a0 :: some (.ref x) :: r) st h Q) : Go d own cc nL ret pc (a0 :: a1 :: r) (.ref x :: st) h Q := by
  subst hq
  intro p l e s m args below meth c α cA D H locs ls C hP hS hl
  exact lv_astore_n C.1 C.2.1 hd rfl (LO.pairs hl) hn rfl (fun ls hl2 => k p l e s m args below meth c α cA D H locs ls C hP hS (LO.of1 (v := .ref x) hl2 (fun w _ hw => by have hw2 : a0 = some w := Option.some.inj hw; rw [← hw2]; exact hp)))

theorem go_lstore1 {d : Nat} {own : String} {cc : ByteArray} {nL : Nat} {ret : Option FieldType} {pc q : Nat} {st : List Value} {h : AH} {Q : Option Value → AH → Prop} {a0 a1 : Option Value} {b : Option Value} {r : List (Option Value)} {x : Int64} (hd : decode cc pc = .ok (.lstore 1, 2)) (hp : okp a0 = true) (hn : 1 + 1 < nL) (hq : pc + 2 = q) (k : Go d own cc nL ret q (a0 :: some (.long x) :: none :: r) st h Q) : Go d own cc nL ret pc (a0 :: a1 :: b :: r) (.long x :: st) h Q := by
  subst hq
  intro p l e s m args below meth c α cA D H locs ls C hP hS hl
  exact lv_lstore C.1 C.2.1 hd (LO.pairs hl) hn rfl (fun ls hl2 => k p l e s m args below meth c α cA D H locs ls C hP hS (LO.of2 (v := .long x) hl2 (fun w _ hw => by have hw2 : a0 = some w := Option.some.inj hw; rw [← hw2]; exact hp)))

theorem go_lstoren1 {d : Nat} {own : String} {cc : ByteArray} {nL : Nat} {ret : Option FieldType} {pc q : Nat} {st : List Value} {h : AH} {Q : Option Value → AH → Prop} {a0 a1 : Option Value} {b : Option Value} {r : List (Option Value)} {x : Int64} (hd : decode cc pc = .ok (.lstore_n 1, 1)) (hp : okp a0 = true) (hn : 1 + 1 < nL) (hq : pc + 1 = q) (k : Go d own cc nL ret q (a0 :: some (.long x) :: none :: r) st h Q) : Go d own cc nL ret pc (a0 :: a1 :: b :: r) (.long x :: st) h Q := by
  subst hq
  intro p l e s m args below meth c α cA D H locs ls C hP hS hl
  exact lv_lstore_n C.1 C.2.1 hd rfl (LO.pairs hl) hn rfl (fun ls hl2 => k p l e s m args below meth c α cA D H locs ls C hP hS (LO.of2 (v := .long x) hl2 (fun w _ hw => by have hw2 : a0 = some w := Option.some.inj hw; rw [← hw2]; exact hp)))

theorem go_iinc1 {d : Nat} {own : String} {cc : ByteArray} {nL : Nat} {ret : Option FieldType} {pc q : Nat} {st : List Value} {h : AH} {Q : Option Value → AH → Prop} {a0 : Option Value} {r : List (Option Value)} {x : Int32} {n : Int} (hd : decode cc pc = .ok (.iinc 1 n, 3)) (hp : okp a0 = true) (hn : 1 < nL) (hq : pc + 3 = q) (k : Go d own cc nL ret q (a0 :: some (.int (x + Int32.ofInt n)) :: r) st h Q) : Go d own cc nL ret pc (a0 :: some (.int x) :: r) st h Q := by
  subst hq
  intro p l e s m args below meth c α cA D H locs ls C hP hS hl
  obtain ⟨kk, hkk⟩ := List.getElem?_of_mem (lp_mem (lo := (a0 :: some (.int x) :: r)) (α := α) (j := 1) (w := .int x) rfl)
  exact lv_iinc C.1 C.2.1 hd (LO.pairs hl) hkk rfl hn rfl (fun ls hl2 => k p l e s m args below meth c α cA D H locs ls C hP hS (LO.of1 (v := .int (x + Int32.ofInt n)) hl2 (fun w _ hw => by have hw2 : a0 = some w := Option.some.inj hw; rw [← hw2]; exact hp)))

theorem go_iincN1 {d : Nat} {own : String} {cc : ByteArray} {nL : Nat} {ret : Option FieldType} {pc q : Nat} {st : List Value} {h : AH} {Q : Option Value → AH → Prop} {a0 : Option Value} {r : List (Option Value)} {x : Nat} {n : Nat} (hd : decode cc pc = .ok (.iinc 1 (n : Nat), 3)) (hp : okp a0 = true) (hn : 1 < nL) (hq : pc + 3 = q) (k : Go d own cc nL ret q (a0 :: some (.int (nI (x + n))) :: r) st h Q) : Go d own cc nL ret pc (a0 :: some (.int (nI x)) :: r) st h Q := by
  subst hq
  intro p l e s m args below meth c α cA D H locs ls C hP hS hl
  obtain ⟨kk, hkk⟩ := List.getElem?_of_mem (lp_mem (lo := (a0 :: some (.int (nI x)) :: r)) (α := α) (j := 1) (w := .int (nI x)) rfl)
  exact lv_iinc C.1 C.2.1 hd (LO.pairs hl) hkk (nI_add x n) hn rfl (fun ls hl2 => k p l e s m args below meth c α cA D H locs ls C hP hS (LO.of1 (v := .int (nI (x + n))) hl2 (fun w _ hw => by have hw2 : a0 = some w := Option.some.inj hw; rw [← hw2]; exact hp)))

theorem go_istore2 {d : Nat} {own : String} {cc : ByteArray} {nL : Nat} {ret : Option FieldType} {pc q : Nat} {st : List Value} {h : AH} {Q : Option Value → AH → Prop} {a0 a1 a2 : Option Value} {r : List (Option Value)} {x : Int32} (hd : decode cc pc = .ok (.istore 2, 2)) (hp : okp a1 = true) (hn : 2 < nL) (hq : pc + 2 = q) (k : Go d own cc nL ret q (a0 :: a1 :: some (.int x) :: r) st h Q) : Go d own cc nL ret pc (a0 :: a1 :: a2 :: r) (.int x :: st) h Q := by
  subst hq
  intro p l e s m args below meth c α cA D H locs ls C hP hS hl
  exact lv_istore C.1 C.2.1 hd (LO.pairs hl) hn rfl (fun ls hl2 => k p l e s m args below meth c α cA D H locs ls C hP hS (LO.of1 (v := .int x) hl2 (fun w _ hw => by have hw2 : a1 = some w := Option.some.inj hw; rw [← hw2]; exact hp)))

theorem go_istoren2 {d : Nat} {own : String} {cc : ByteArray} {nL : Nat} {ret : Option FieldType} {pc q : Nat} {st : List Value} {h : AH} {Q : Option Value → AH → Prop} {a0 a1 a2 : Option Value} {r : List (Option Value)} {x : Int32} (hd : decode cc pc = .ok (.istore_n 2, 1)) (hp : okp a1 = true) (hn : 2 < nL) (hq : pc + 1 = q) (k : Go d own cc nL ret q (a0 :: a1 :: some (.int x) :: r) st h Q) : Go d own cc nL ret pc (a0 :: a1 :: a2 :: r) (.int x :: st) h Q := by
  subst hq
  intro p l e s m args below meth c α cA D H locs ls C hP hS hl
  exact lv_istore_n C.1 C.2.1 hd rfl (LO.pairs hl) hn rfl (fun ls hl2 => k p l e s m args below meth c α cA D H locs ls C hP hS (LO.of1 (v := .int x) hl2 (fun w _ hw => by have hw2 : a1 = some w := Option.some.inj hw; rw [← hw2]; exact hp)))

theorem go_astore2 {d : Nat} {own : String} {cc : ByteArray} {nL : Nat} {ret : Option FieldType} {pc q : Nat} {st : List Value} {h : AH} {Q : Option Value → AH → Prop} {a0 a1 a2 : Option Value} {r : List (Option Value)} {x : Nat} (hd : decode cc pc = .ok (.astore 2, 2)) (hp : okp a1 = true) (hn : 2 < nL) (hq : pc + 2 = q) (k : Go d own cc nL ret q (a0 :: a1 :: some (.ref x) :: r) st h Q) : Go d own cc nL ret pc (a0 :: a1 :: a2 :: r) (.ref x :: st) h Q := by
  subst hq
  intro p l e s m args below meth c α cA D H locs ls C hP hS hl
  exact lv_astore C.1 C.2.1 hd (LO.pairs hl) hn rfl (fun ls hl2 => k p l e s m args below meth c α cA D H locs ls C hP hS (LO.of1 (v := .ref x) hl2 (fun w _ hw => by have hw2 : a1 = some w := Option.some.inj hw; rw [← hw2]; exact hp)))

theorem go_astoren2 {d : Nat} {own : String} {cc : ByteArray} {nL : Nat} {ret : Option FieldType} {pc q : Nat} {st : List Value} {h : AH} {Q : Option Value → AH → Prop} {a0 a1 a2 : Option Value} {r : List (Option Value)} {x : Nat} (hd : decode cc pc = .ok (.astore_n 2, 1)) (hp : okp a1 = true) (hn : 2 < nL) (hq : pc + 1 = q) (k : Go d own cc nL ret q (a0 :: a1 :: some (.ref x) :: r) st h Q) : Go d own cc nL ret pc (a0 :: a1 :: a2 :: r) (.ref x :: st) h Q := by
  subst hq
  intro p l e s m args below meth c α cA D H locs ls C hP hS hl
  exact lv_astore_n C.1 C.2.1 hd rfl (LO.pairs hl) hn rfl (fun ls hl2 => k p l e s m args below meth c α cA D H locs ls C hP hS (LO.of1 (v := .ref x) hl2 (fun w _ hw => by have hw2 : a1 = some w := Option.some.inj hw; rw [← hw2]; exact hp)))

theorem go_lstore2 {d : Nat} {own : String} {cc : ByteArray} {nL : Nat} {ret : Option FieldType} {pc q : Nat} {st : List Value} {h : AH} {Q : Option Value → AH → Prop} {a0 a1 a2 : Option Value} {b : Option Value} {r : List (Option Value)} {x : Int64} (hd : decode cc pc = .ok (.lstore 2, 2)) (hp : okp a1 = true) (hn : 2 + 1 < nL) (hq : pc + 2 = q) (k : Go d own cc nL ret q (a0 :: a1 :: some (.long x) :: none :: r) st h Q) : Go d own cc nL ret pc (a0 :: a1 :: a2 :: b :: r) (.long x :: st) h Q := by
  subst hq
  intro p l e s m args below meth c α cA D H locs ls C hP hS hl
  exact lv_lstore C.1 C.2.1 hd (LO.pairs hl) hn rfl (fun ls hl2 => k p l e s m args below meth c α cA D H locs ls C hP hS (LO.of2 (v := .long x) hl2 (fun w _ hw => by have hw2 : a1 = some w := Option.some.inj hw; rw [← hw2]; exact hp)))

theorem go_lstoren2 {d : Nat} {own : String} {cc : ByteArray} {nL : Nat} {ret : Option FieldType} {pc q : Nat} {st : List Value} {h : AH} {Q : Option Value → AH → Prop} {a0 a1 a2 : Option Value} {b : Option Value} {r : List (Option Value)} {x : Int64} (hd : decode cc pc = .ok (.lstore_n 2, 1)) (hp : okp a1 = true) (hn : 2 + 1 < nL) (hq : pc + 1 = q) (k : Go d own cc nL ret q (a0 :: a1 :: some (.long x) :: none :: r) st h Q) : Go d own cc nL ret pc (a0 :: a1 :: a2 :: b :: r) (.long x :: st) h Q := by
  subst hq
  intro p l e s m args below meth c α cA D H locs ls C hP hS hl
  exact lv_lstore_n C.1 C.2.1 hd rfl (LO.pairs hl) hn rfl (fun ls hl2 => k p l e s m args below meth c α cA D H locs ls C hP hS (LO.of2 (v := .long x) hl2 (fun w _ hw => by have hw2 : a1 = some w := Option.some.inj hw; rw [← hw2]; exact hp)))

theorem go_iinc2 {d : Nat} {own : String} {cc : ByteArray} {nL : Nat} {ret : Option FieldType} {pc q : Nat} {st : List Value} {h : AH} {Q : Option Value → AH → Prop} {a0 a1 : Option Value} {r : List (Option Value)} {x : Int32} {n : Int} (hd : decode cc pc = .ok (.iinc 2 n, 3)) (hp : okp a1 = true) (hn : 2 < nL) (hq : pc + 3 = q) (k : Go d own cc nL ret q (a0 :: a1 :: some (.int (x + Int32.ofInt n)) :: r) st h Q) : Go d own cc nL ret pc (a0 :: a1 :: some (.int x) :: r) st h Q := by
  subst hq
  intro p l e s m args below meth c α cA D H locs ls C hP hS hl
  obtain ⟨kk, hkk⟩ := List.getElem?_of_mem (lp_mem (lo := (a0 :: a1 :: some (.int x) :: r)) (α := α) (j := 2) (w := .int x) rfl)
  exact lv_iinc C.1 C.2.1 hd (LO.pairs hl) hkk rfl hn rfl (fun ls hl2 => k p l e s m args below meth c α cA D H locs ls C hP hS (LO.of1 (v := .int (x + Int32.ofInt n)) hl2 (fun w _ hw => by have hw2 : a1 = some w := Option.some.inj hw; rw [← hw2]; exact hp)))

theorem go_iincN2 {d : Nat} {own : String} {cc : ByteArray} {nL : Nat} {ret : Option FieldType} {pc q : Nat} {st : List Value} {h : AH} {Q : Option Value → AH → Prop} {a0 a1 : Option Value} {r : List (Option Value)} {x : Nat} {n : Nat} (hd : decode cc pc = .ok (.iinc 2 (n : Nat), 3)) (hp : okp a1 = true) (hn : 2 < nL) (hq : pc + 3 = q) (k : Go d own cc nL ret q (a0 :: a1 :: some (.int (nI (x + n))) :: r) st h Q) : Go d own cc nL ret pc (a0 :: a1 :: some (.int (nI x)) :: r) st h Q := by
  subst hq
  intro p l e s m args below meth c α cA D H locs ls C hP hS hl
  obtain ⟨kk, hkk⟩ := List.getElem?_of_mem (lp_mem (lo := (a0 :: a1 :: some (.int (nI x)) :: r)) (α := α) (j := 2) (w := .int (nI x)) rfl)
  exact lv_iinc C.1 C.2.1 hd (LO.pairs hl) hkk (nI_add x n) hn rfl (fun ls hl2 => k p l e s m args below meth c α cA D H locs ls C hP hS (LO.of1 (v := .int (nI (x + n))) hl2 (fun w _ hw => by have hw2 : a1 = some w := Option.some.inj hw; rw [← hw2]; exact hp)))

theorem go_istore3 {d : Nat} {own : String} {cc : ByteArray} {nL : Nat} {ret : Option FieldType} {pc q : Nat} {st : List Value} {h : AH} {Q : Option Value → AH → Prop} {a0 a1 a2 a3 : Option Value} {r : List (Option Value)} {x : Int32} (hd : decode cc pc = .ok (.istore 3, 2)) (hp : okp a2 = true) (hn : 3 < nL) (hq : pc + 2 = q) (k : Go d own cc nL ret q (a0 :: a1 :: a2 :: some (.int x) :: r) st h Q) : Go d own cc nL ret pc (a0 :: a1 :: a2 :: a3 :: r) (.int x :: st) h Q := by
  subst hq
  intro p l e s m args below meth c α cA D H locs ls C hP hS hl
  exact lv_istore C.1 C.2.1 hd (LO.pairs hl) hn rfl (fun ls hl2 => k p l e s m args below meth c α cA D H locs ls C hP hS (LO.of1 (v := .int x) hl2 (fun w _ hw => by have hw2 : a2 = some w := Option.some.inj hw; rw [← hw2]; exact hp)))

theorem go_istoren3 {d : Nat} {own : String} {cc : ByteArray} {nL : Nat} {ret : Option FieldType} {pc q : Nat} {st : List Value} {h : AH} {Q : Option Value → AH → Prop} {a0 a1 a2 a3 : Option Value} {r : List (Option Value)} {x : Int32} (hd : decode cc pc = .ok (.istore_n 3, 1)) (hp : okp a2 = true) (hn : 3 < nL) (hq : pc + 1 = q) (k : Go d own cc nL ret q (a0 :: a1 :: a2 :: some (.int x) :: r) st h Q) : Go d own cc nL ret pc (a0 :: a1 :: a2 :: a3 :: r) (.int x :: st) h Q := by
  subst hq
  intro p l e s m args below meth c α cA D H locs ls C hP hS hl
  exact lv_istore_n C.1 C.2.1 hd rfl (LO.pairs hl) hn rfl (fun ls hl2 => k p l e s m args below meth c α cA D H locs ls C hP hS (LO.of1 (v := .int x) hl2 (fun w _ hw => by have hw2 : a2 = some w := Option.some.inj hw; rw [← hw2]; exact hp)))

theorem go_astore3 {d : Nat} {own : String} {cc : ByteArray} {nL : Nat} {ret : Option FieldType} {pc q : Nat} {st : List Value} {h : AH} {Q : Option Value → AH → Prop} {a0 a1 a2 a3 : Option Value} {r : List (Option Value)} {x : Nat} (hd : decode cc pc = .ok (.astore 3, 2)) (hp : okp a2 = true) (hn : 3 < nL) (hq : pc + 2 = q) (k : Go d own cc nL ret q (a0 :: a1 :: a2 :: some (.ref x) :: r) st h Q) : Go d own cc nL ret pc (a0 :: a1 :: a2 :: a3 :: r) (.ref x :: st) h Q := by
  subst hq
  intro p l e s m args below meth c α cA D H locs ls C hP hS hl
  exact lv_astore C.1 C.2.1 hd (LO.pairs hl) hn rfl (fun ls hl2 => k p l e s m args below meth c α cA D H locs ls C hP hS (LO.of1 (v := .ref x) hl2 (fun w _ hw => by have hw2 : a2 = some w := Option.some.inj hw; rw [← hw2]; exact hp)))

theorem go_astoren3 {d : Nat} {own : String} {cc : ByteArray} {nL : Nat} {ret : Option FieldType} {pc q : Nat} {st : List Value} {h : AH} {Q : Option Value → AH → Prop} {a0 a1 a2 a3 : Option Value} {r : List (Option Value)} {x : Nat} (hd : decode cc pc = .ok (.astore_n 3, 1)) (hp : okp a2 = true) (hn : 3 < nL) (hq : pc + 1 = q) (k : Go d own cc nL ret q (a0 :: a1 :: a2 :: some (.ref x) :: r) st h Q) : Go d own cc nL ret pc (a0 :: a1 :: a2 :: a3 :: r) (.ref x :: st) h Q := by
  subst hq
  intro p l e s m args below meth c α cA D H locs ls C hP hS hl
  exact lv_astore_n C.1 C.2.1 hd rfl (LO.pairs hl) hn rfl (fun ls hl2 => k p l e s m args below meth c α cA D H locs ls C hP hS (LO.of1 (v := .ref x) hl2 (fun w _ hw => by have hw2 : a2 = some w := Option.some.inj hw; rw [← hw2]; exact hp)))

theorem go_lstore3 {d : Nat} {own : String} {cc : ByteArray} {nL : Nat} {ret : Option FieldType} {pc q : Nat} {st : List Value} {h : AH} {Q : Option Value → AH → Prop} {a0 a1 a2 a3 : Option Value} {b : Option Value} {r : List (Option Value)} {x : Int64} (hd : decode cc pc = .ok (.lstore 3, 2)) (hp : okp a2 = true) (hn : 3 + 1 < nL) (hq : pc + 2 = q) (k : Go d own cc nL ret q (a0 :: a1 :: a2 :: some (.long x) :: none :: r) st h Q) : Go d own cc nL ret pc (a0 :: a1 :: a2 :: a3 :: b :: r) (.long x :: st) h Q := by
  subst hq
  intro p l e s m args below meth c α cA D H locs ls C hP hS hl
  exact lv_lstore C.1 C.2.1 hd (LO.pairs hl) hn rfl (fun ls hl2 => k p l e s m args below meth c α cA D H locs ls C hP hS (LO.of2 (v := .long x) hl2 (fun w _ hw => by have hw2 : a2 = some w := Option.some.inj hw; rw [← hw2]; exact hp)))

theorem go_lstoren3 {d : Nat} {own : String} {cc : ByteArray} {nL : Nat} {ret : Option FieldType} {pc q : Nat} {st : List Value} {h : AH} {Q : Option Value → AH → Prop} {a0 a1 a2 a3 : Option Value} {b : Option Value} {r : List (Option Value)} {x : Int64} (hd : decode cc pc = .ok (.lstore_n 3, 1)) (hp : okp a2 = true) (hn : 3 + 1 < nL) (hq : pc + 1 = q) (k : Go d own cc nL ret q (a0 :: a1 :: a2 :: some (.long x) :: none :: r) st h Q) : Go d own cc nL ret pc (a0 :: a1 :: a2 :: a3 :: b :: r) (.long x :: st) h Q := by
  subst hq
  intro p l e s m args below meth c α cA D H locs ls C hP hS hl
  exact lv_lstore_n C.1 C.2.1 hd rfl (LO.pairs hl) hn rfl (fun ls hl2 => k p l e s m args below meth c α cA D H locs ls C hP hS (LO.of2 (v := .long x) hl2 (fun w _ hw => by have hw2 : a2 = some w := Option.some.inj hw; rw [← hw2]; exact hp)))

theorem go_iinc3 {d : Nat} {own : String} {cc : ByteArray} {nL : Nat} {ret : Option FieldType} {pc q : Nat} {st : List Value} {h : AH} {Q : Option Value → AH → Prop} {a0 a1 a2 : Option Value} {r : List (Option Value)} {x : Int32} {n : Int} (hd : decode cc pc = .ok (.iinc 3 n, 3)) (hp : okp a2 = true) (hn : 3 < nL) (hq : pc + 3 = q) (k : Go d own cc nL ret q (a0 :: a1 :: a2 :: some (.int (x + Int32.ofInt n)) :: r) st h Q) : Go d own cc nL ret pc (a0 :: a1 :: a2 :: some (.int x) :: r) st h Q := by
  subst hq
  intro p l e s m args below meth c α cA D H locs ls C hP hS hl
  obtain ⟨kk, hkk⟩ := List.getElem?_of_mem (lp_mem (lo := (a0 :: a1 :: a2 :: some (.int x) :: r)) (α := α) (j := 3) (w := .int x) rfl)
  exact lv_iinc C.1 C.2.1 hd (LO.pairs hl) hkk rfl hn rfl (fun ls hl2 => k p l e s m args below meth c α cA D H locs ls C hP hS (LO.of1 (v := .int (x + Int32.ofInt n)) hl2 (fun w _ hw => by have hw2 : a2 = some w := Option.some.inj hw; rw [← hw2]; exact hp)))

theorem go_iincN3 {d : Nat} {own : String} {cc : ByteArray} {nL : Nat} {ret : Option FieldType} {pc q : Nat} {st : List Value} {h : AH} {Q : Option Value → AH → Prop} {a0 a1 a2 : Option Value} {r : List (Option Value)} {x : Nat} {n : Nat} (hd : decode cc pc = .ok (.iinc 3 (n : Nat), 3)) (hp : okp a2 = true) (hn : 3 < nL) (hq : pc + 3 = q) (k : Go d own cc nL ret q (a0 :: a1 :: a2 :: some (.int (nI (x + n))) :: r) st h Q) : Go d own cc nL ret pc (a0 :: a1 :: a2 :: some (.int (nI x)) :: r) st h Q := by
  subst hq
  intro p l e s m args below meth c α cA D H locs ls C hP hS hl
  obtain ⟨kk, hkk⟩ := List.getElem?_of_mem (lp_mem (lo := (a0 :: a1 :: a2 :: some (.int (nI x)) :: r)) (α := α) (j := 3) (w := .int (nI x)) rfl)
  exact lv_iinc C.1 C.2.1 hd (LO.pairs hl) hkk (nI_add x n) hn rfl (fun ls hl2 => k p l e s m args below meth c α cA D H locs ls C hP hS (LO.of1 (v := .int (nI (x + n))) hl2 (fun w _ hw => by have hw2 : a2 = some w := Option.some.inj hw; rw [← hw2]; exact hp)))

theorem go_istore4 {d : Nat} {own : String} {cc : ByteArray} {nL : Nat} {ret : Option FieldType} {pc q : Nat} {st : List Value} {h : AH} {Q : Option Value → AH → Prop} {a0 a1 a2 a3 a4 : Option Value} {r : List (Option Value)} {x : Int32} (hd : decode cc pc = .ok (.istore 4, 2)) (hp : okp a3 = true) (hn : 4 < nL) (hq : pc + 2 = q) (k : Go d own cc nL ret q (a0 :: a1 :: a2 :: a3 :: some (.int x) :: r) st h Q) : Go d own cc nL ret pc (a0 :: a1 :: a2 :: a3 :: a4 :: r) (.int x :: st) h Q := by
  subst hq
  intro p l e s m args below meth c α cA D H locs ls C hP hS hl
  exact lv_istore C.1 C.2.1 hd (LO.pairs hl) hn rfl (fun ls hl2 => k p l e s m args below meth c α cA D H locs ls C hP hS (LO.of1 (v := .int x) hl2 (fun w _ hw => by have hw2 : a3 = some w := Option.some.inj hw; rw [← hw2]; exact hp)))

theorem go_astore4 {d : Nat} {own : String} {cc : ByteArray} {nL : Nat} {ret : Option FieldType} {pc q : Nat} {st : List Value} {h : AH} {Q : Option Value → AH → Prop} {a0 a1 a2 a3 a4 : Option Value} {r : List (Option Value)} {x : Nat} (hd : decode cc pc = .ok (.astore 4, 2)) (hp : okp a3 = true) (hn : 4 < nL) (hq : pc + 2 = q) (k : Go d own cc nL ret q (a0 :: a1 :: a2 :: a3 :: some (.ref x) :: r) st h Q) : Go d own cc nL ret pc (a0 :: a1 :: a2 :: a3 :: a4 :: r) (.ref x :: st) h Q := by
  subst hq
  intro p l e s m args below meth c α cA D H locs ls C hP hS hl
  exact lv_astore C.1 C.2.1 hd (LO.pairs hl) hn rfl (fun ls hl2 => k p l e s m args below meth c α cA D H locs ls C hP hS (LO.of1 (v := .ref x) hl2 (fun w _ hw => by have hw2 : a3 = some w := Option.some.inj hw; rw [← hw2]; exact hp)))

theorem go_lstore4 {d : Nat} {own : String} {cc : ByteArray} {nL : Nat} {ret : Option FieldType} {pc q : Nat} {st : List Value} {h : AH} {Q : Option Value → AH → Prop} {a0 a1 a2 a3 a4 : Option Value} {b : Option Value} {r : List (Option Value)} {x : Int64} (hd : decode cc pc = .ok (.lstore 4, 2)) (hp : okp a3 = true) (hn : 4 + 1 < nL) (hq : pc + 2 = q) (k : Go d own cc nL ret q (a0 :: a1 :: a2 :: a3 :: some (.long x) :: none :: r) st h Q) : Go d own cc nL ret pc (a0 :: a1 :: a2 :: a3 :: a4 :: b :: r) (.long x :: st) h Q := by
  subst hq
  intro p l e s m args below meth c α cA D H locs ls C hP hS hl
  exact lv_lstore C.1 C.2.1 hd (LO.pairs hl) hn rfl (fun ls hl2 => k p l e s m args below meth c α cA D H locs ls C hP hS (LO.of2 (v := .long x) hl2 (fun w _ hw => by have hw2 : a3 = some w := Option.some.inj hw; rw [← hw2]; exact hp)))

theorem go_iinc4 {d : Nat} {own : String} {cc : ByteArray} {nL : Nat} {ret : Option FieldType} {pc q : Nat} {st : List Value} {h : AH} {Q : Option Value → AH → Prop} {a0 a1 a2 a3 : Option Value} {r : List (Option Value)} {x : Int32} {n : Int} (hd : decode cc pc = .ok (.iinc 4 n, 3)) (hp : okp a3 = true) (hn : 4 < nL) (hq : pc + 3 = q) (k : Go d own cc nL ret q (a0 :: a1 :: a2 :: a3 :: some (.int (x + Int32.ofInt n)) :: r) st h Q) : Go d own cc nL ret pc (a0 :: a1 :: a2 :: a3 :: some (.int x) :: r) st h Q := by
  subst hq
  intro p l e s m args below meth c α cA D H locs ls C hP hS hl
  obtain ⟨kk, hkk⟩ := List.getElem?_of_mem (lp_mem (lo := (a0 :: a1 :: a2 :: a3 :: some (.int x) :: r)) (α := α) (j := 4) (w := .int x) rfl)
  exact lv_iinc C.1 C.2.1 hd (LO.pairs hl) hkk rfl hn rfl (fun ls hl2 => k p l e s m args below meth c α cA D H locs ls C hP hS (LO.of1 (v := .int (x + Int32.ofInt n)) hl2 (fun w _ hw => by have hw2 : a3 = some w := Option.some.inj hw; rw [← hw2]; exact hp)))

theorem go_iincN4 {d : Nat} {own : String} {cc : ByteArray} {nL : Nat} {ret : Option FieldType} {pc q : Nat} {st : List Value} {h : AH} {Q : Option Value → AH → Prop} {a0 a1 a2 a3 : Option Value} {r : List (Option Value)} {x : Nat} {n : Nat} (hd : decode cc pc = .ok (.iinc 4 (n : Nat), 3)) (hp : okp a3 = true) (hn : 4 < nL) (hq : pc + 3 = q) (k : Go d own cc nL ret q (a0 :: a1 :: a2 :: a3 :: some (.int (nI (x + n))) :: r) st h Q) : Go d own cc nL ret pc (a0 :: a1 :: a2 :: a3 :: some (.int (nI x)) :: r) st h Q := by
  subst hq
  intro p l e s m args below meth c α cA D H locs ls C hP hS hl
  obtain ⟨kk, hkk⟩ := List.getElem?_of_mem (lp_mem (lo := (a0 :: a1 :: a2 :: a3 :: some (.int (nI x)) :: r)) (α := α) (j := 4) (w := .int (nI x)) rfl)
  exact lv_iinc C.1 C.2.1 hd (LO.pairs hl) hkk (nI_add x n) hn rfl (fun ls hl2 => k p l e s m args below meth c α cA D H locs ls C hP hS (LO.of1 (v := .int (nI (x + n))) hl2 (fun w _ hw => by have hw2 : a3 = some w := Option.some.inj hw; rw [← hw2]; exact hp)))

theorem go_istore5 {d : Nat} {own : String} {cc : ByteArray} {nL : Nat} {ret : Option FieldType} {pc q : Nat} {st : List Value} {h : AH} {Q : Option Value → AH → Prop} {a0 a1 a2 a3 a4 a5 : Option Value} {r : List (Option Value)} {x : Int32} (hd : decode cc pc = .ok (.istore 5, 2)) (hp : okp a4 = true) (hn : 5 < nL) (hq : pc + 2 = q) (k : Go d own cc nL ret q (a0 :: a1 :: a2 :: a3 :: a4 :: some (.int x) :: r) st h Q) : Go d own cc nL ret pc (a0 :: a1 :: a2 :: a3 :: a4 :: a5 :: r) (.int x :: st) h Q := by
  subst hq
  intro p l e s m args below meth c α cA D H locs ls C hP hS hl
  exact lv_istore C.1 C.2.1 hd (LO.pairs hl) hn rfl (fun ls hl2 => k p l e s m args below meth c α cA D H locs ls C hP hS (LO.of1 (v := .int x) hl2 (fun w _ hw => by have hw2 : a4 = some w := Option.some.inj hw; rw [← hw2]; exact hp)))

theorem go_astore5 {d : Nat} {own : String} {cc : ByteArray} {nL : Nat} {ret : Option FieldType} {pc q : Nat} {st : List Value} {h : AH} {Q : Option Value → AH → Prop} {a0 a1 a2 a3 a4 a5 : Option Value} {r : List (Option Value)} {x : Nat} (hd : decode cc pc = .ok (.astore 5, 2)) (hp : okp a4 = true) (hn : 5 < nL) (hq : pc + 2 = q) (k : Go d own cc nL ret q (a0 :: a1 :: a2 :: a3 :: a4 :: some (.ref x) :: r) st h Q) : Go d own cc nL ret pc (a0 :: a1 :: a2 :: a3 :: a4 :: a5 :: r) (.ref x :: st) h Q := by
  subst hq
  intro p l e s m args below meth c α cA D H locs ls C hP hS hl
  exact lv_astore C.1 C.2.1 hd (LO.pairs hl) hn rfl (fun ls hl2 => k p l e s m args below meth c α cA D H locs ls C hP hS (LO.of1 (v := .ref x) hl2 (fun w _ hw => by have hw2 : a4 = some w := Option.some.inj hw; rw [← hw2]; exact hp)))

theorem go_lstore5 {d : Nat} {own : String} {cc : ByteArray} {nL : Nat} {ret : Option FieldType} {pc q : Nat} {st : List Value} {h : AH} {Q : Option Value → AH → Prop} {a0 a1 a2 a3 a4 a5 : Option Value} {b : Option Value} {r : List (Option Value)} {x : Int64} (hd : decode cc pc = .ok (.lstore 5, 2)) (hp : okp a4 = true) (hn : 5 + 1 < nL) (hq : pc + 2 = q) (k : Go d own cc nL ret q (a0 :: a1 :: a2 :: a3 :: a4 :: some (.long x) :: none :: r) st h Q) : Go d own cc nL ret pc (a0 :: a1 :: a2 :: a3 :: a4 :: a5 :: b :: r) (.long x :: st) h Q := by
  subst hq
  intro p l e s m args below meth c α cA D H locs ls C hP hS hl
  exact lv_lstore C.1 C.2.1 hd (LO.pairs hl) hn rfl (fun ls hl2 => k p l e s m args below meth c α cA D H locs ls C hP hS (LO.of2 (v := .long x) hl2 (fun w _ hw => by have hw2 : a4 = some w := Option.some.inj hw; rw [← hw2]; exact hp)))

theorem go_iinc5 {d : Nat} {own : String} {cc : ByteArray} {nL : Nat} {ret : Option FieldType} {pc q : Nat} {st : List Value} {h : AH} {Q : Option Value → AH → Prop} {a0 a1 a2 a3 a4 : Option Value} {r : List (Option Value)} {x : Int32} {n : Int} (hd : decode cc pc = .ok (.iinc 5 n, 3)) (hp : okp a4 = true) (hn : 5 < nL) (hq : pc + 3 = q) (k : Go d own cc nL ret q (a0 :: a1 :: a2 :: a3 :: a4 :: some (.int (x + Int32.ofInt n)) :: r) st h Q) : Go d own cc nL ret pc (a0 :: a1 :: a2 :: a3 :: a4 :: some (.int x) :: r) st h Q := by
  subst hq
  intro p l e s m args below meth c α cA D H locs ls C hP hS hl
  obtain ⟨kk, hkk⟩ := List.getElem?_of_mem (lp_mem (lo := (a0 :: a1 :: a2 :: a3 :: a4 :: some (.int x) :: r)) (α := α) (j := 5) (w := .int x) rfl)
  exact lv_iinc C.1 C.2.1 hd (LO.pairs hl) hkk rfl hn rfl (fun ls hl2 => k p l e s m args below meth c α cA D H locs ls C hP hS (LO.of1 (v := .int (x + Int32.ofInt n)) hl2 (fun w _ hw => by have hw2 : a4 = some w := Option.some.inj hw; rw [← hw2]; exact hp)))

theorem go_iincN5 {d : Nat} {own : String} {cc : ByteArray} {nL : Nat} {ret : Option FieldType} {pc q : Nat} {st : List Value} {h : AH} {Q : Option Value → AH → Prop} {a0 a1 a2 a3 a4 : Option Value} {r : List (Option Value)} {x : Nat} {n : Nat} (hd : decode cc pc = .ok (.iinc 5 (n : Nat), 3)) (hp : okp a4 = true) (hn : 5 < nL) (hq : pc + 3 = q) (k : Go d own cc nL ret q (a0 :: a1 :: a2 :: a3 :: a4 :: some (.int (nI (x + n))) :: r) st h Q) : Go d own cc nL ret pc (a0 :: a1 :: a2 :: a3 :: a4 :: some (.int (nI x)) :: r) st h Q := by
  subst hq
  intro p l e s m args below meth c α cA D H locs ls C hP hS hl
  obtain ⟨kk, hkk⟩ := List.getElem?_of_mem (lp_mem (lo := (a0 :: a1 :: a2 :: a3 :: a4 :: some (.int (nI x)) :: r)) (α := α) (j := 5) (w := .int (nI x)) rfl)
  exact lv_iinc C.1 C.2.1 hd (LO.pairs hl) hkk (nI_add x n) hn rfl (fun ls hl2 => k p l e s m args below meth c α cA D H locs ls C hP hS (LO.of1 (v := .int (nI (x + n))) hl2 (fun w _ hw => by have hw2 : a4 = some w := Option.some.inj hw; rw [← hw2]; exact hp)))

theorem go_istore6 {d : Nat} {own : String} {cc : ByteArray} {nL : Nat} {ret : Option FieldType} {pc q : Nat} {st : List Value} {h : AH} {Q : Option Value → AH → Prop} {a0 a1 a2 a3 a4 a5 a6 : Option Value} {r : List (Option Value)} {x : Int32} (hd : decode cc pc = .ok (.istore 6, 2)) (hp : okp a5 = true) (hn : 6 < nL) (hq : pc + 2 = q) (k : Go d own cc nL ret q (a0 :: a1 :: a2 :: a3 :: a4 :: a5 :: some (.int x) :: r) st h Q) : Go d own cc nL ret pc (a0 :: a1 :: a2 :: a3 :: a4 :: a5 :: a6 :: r) (.int x :: st) h Q := by
  subst hq
  intro p l e s m args below meth c α cA D H locs ls C hP hS hl
  exact lv_istore C.1 C.2.1 hd (LO.pairs hl) hn rfl (fun ls hl2 => k p l e s m args below meth c α cA D H locs ls C hP hS (LO.of1 (v := .int x) hl2 (fun w _ hw => by have hw2 : a5 = some w := Option.some.inj hw; rw [← hw2]; exact hp)))

theorem go_astore6 {d : Nat} {own : String} {cc : ByteArray} {nL : Nat} {ret : Option FieldType} {pc q : Nat} {st : List Value} {h : AH} {Q : Option Value → AH → Prop} {a0 a1 a2 a3 a4 a5 a6 : Option Value} {r : List (Option Value)} {x : Nat} (hd : decode cc pc = .ok (.astore 6, 2)) (hp : okp a5 = true) (hn : 6 < nL) (hq : pc + 2 = q) (k : Go d own cc nL ret q (a0 :: a1 :: a2 :: a3 :: a4 :: a5 :: some (.ref x) :: r) st h Q) : Go d own cc nL ret pc (a0 :: a1 :: a2 :: a3 :: a4 :: a5 :: a6 :: r) (.ref x :: st) h Q := by
  subst hq
  intro p l e s m args below meth c α cA D H locs ls C hP hS hl
  exact lv_astore C.1 C.2.1 hd (LO.pairs hl) hn rfl (fun ls hl2 => k p l e s m args below meth c α cA D H locs ls C hP hS (LO.of1 (v := .ref x) hl2 (fun w _ hw => by have hw2 : a5 = some w := Option.some.inj hw; rw [← hw2]; exact hp)))

theorem go_lstore6 {d : Nat} {own : String} {cc : ByteArray} {nL : Nat} {ret : Option FieldType} {pc q : Nat} {st : List Value} {h : AH} {Q : Option Value → AH → Prop} {a0 a1 a2 a3 a4 a5 a6 : Option Value} {b : Option Value} {r : List (Option Value)} {x : Int64} (hd : decode cc pc = .ok (.lstore 6, 2)) (hp : okp a5 = true) (hn : 6 + 1 < nL) (hq : pc + 2 = q) (k : Go d own cc nL ret q (a0 :: a1 :: a2 :: a3 :: a4 :: a5 :: some (.long x) :: none :: r) st h Q) : Go d own cc nL ret pc (a0 :: a1 :: a2 :: a3 :: a4 :: a5 :: a6 :: b :: r) (.long x :: st) h Q := by
  subst hq
  intro p l e s m args below meth c α cA D H locs ls C hP hS hl
  exact lv_lstore C.1 C.2.1 hd (LO.pairs hl) hn rfl (fun ls hl2 => k p l e s m args below meth c α cA D H locs ls C hP hS (LO.of2 (v := .long x) hl2 (fun w _ hw => by have hw2 : a5 = some w := Option.some.inj hw; rw [← hw2]; exact hp)))

theorem go_iinc6 {d : Nat} {own : String} {cc : ByteArray} {nL : Nat} {ret : Option FieldType} {pc q : Nat} {st : List Value} {h : AH} {Q : Option Value → AH → Prop} {a0 a1 a2 a3 a4 a5 : Option Value} {r : List (Option Value)} {x : Int32} {n : Int} (hd : decode cc pc = .ok (.iinc 6 n, 3)) (hp : okp a5 = true) (hn : 6 < nL) (hq : pc + 3 = q) (k : Go d own cc nL ret q (a0 :: a1 :: a2 :: a3 :: a4 :: a5 :: some (.int (x + Int32.ofInt n)) :: r) st h Q) : Go d own cc nL ret pc (a0 :: a1 :: a2 :: a3 :: a4 :: a5 :: some (.int x) :: r) st h Q := by
  subst hq
  intro p l e s m args below meth c α cA D H locs ls C hP hS hl
  obtain ⟨kk, hkk⟩ := List.getElem?_of_mem (lp_mem (lo := (a0 :: a1 :: a2 :: a3 :: a4 :: a5 :: some (.int x) :: r)) (α := α) (j := 6) (w := .int x) rfl)
  exact lv_iinc C.1 C.2.1 hd (LO.pairs hl) hkk rfl hn rfl (fun ls hl2 => k p l e s m args below meth c α cA D H locs ls C hP hS (LO.of1 (v := .int (x + Int32.ofInt n)) hl2 (fun w _ hw => by have hw2 : a5 = some w := Option.some.inj hw; rw [← hw2]; exact hp)))

theorem go_iincN6 {d : Nat} {own : String} {cc : ByteArray} {nL : Nat} {ret : Option FieldType} {pc q : Nat} {st : List Value} {h : AH} {Q : Option Value → AH → Prop} {a0 a1 a2 a3 a4 a5 : Option Value} {r : List (Option Value)} {x : Nat} {n : Nat} (hd : decode cc pc = .ok (.iinc 6 (n : Nat), 3)) (hp : okp a5 = true) (hn : 6 < nL) (hq : pc + 3 = q) (k : Go d own cc nL ret q (a0 :: a1 :: a2 :: a3 :: a4 :: a5 :: some (.int (nI (x + n))) :: r) st h Q) : Go d own cc nL ret pc (a0 :: a1 :: a2 :: a3 :: a4 :: a5 :: some (.int (nI x)) :: r) st h Q := by
  subst hq
  intro p l e s m args below meth c α cA D H locs ls C hP hS hl
  obtain ⟨kk, hkk⟩ := List.getElem?_of_mem (lp_mem (lo := (a0 :: a1 :: a2 :: a3 :: a4 :: a5 :: some (.int (nI x)) :: r)) (α := α) (j := 6) (w := .int (nI x)) rfl)
  exact lv_iinc C.1 C.2.1 hd (LO.pairs hl) hkk (nI_add x n) hn rfl (fun ls hl2 => k p l e s m args below meth c α cA D H locs ls C hP hS (LO.of1 (v := .int (nI (x + n))) hl2 (fun w _ hw => by have hw2 : a5 = some w := Option.some.inj hw; rw [← hw2]; exact hp)))

theorem go_istore7 {d : Nat} {own : String} {cc : ByteArray} {nL : Nat} {ret : Option FieldType} {pc q : Nat} {st : List Value} {h : AH} {Q : Option Value → AH → Prop} {a0 a1 a2 a3 a4 a5 a6 a7 : Option Value} {r : List (Option Value)} {x : Int32} (hd : decode cc pc = .ok (.istore 7, 2)) (hp : okp a6 = true) (hn : 7 < nL) (hq : pc + 2 = q) (k : Go d own cc nL ret q (a0 :: a1 :: a2 :: a3 :: a4 :: a5 :: a6 :: some (.int x) :: r) st h Q) : Go d own cc nL ret pc (a0 :: a1 :: a2 :: a3 :: a4 :: a5 :: a6 :: a7 :: r) (.int x :: st) h Q := by
  subst hq
  intro p l e s m args below meth c α cA D H locs ls C hP hS hl
  exact lv_istore C.1 C.2.1 hd (LO.pairs hl) hn rfl (fun ls hl2 => k p l e s m args below meth c α cA D H locs ls C hP hS (LO.of1 (v := .int x) hl2 (fun w _ hw => by have hw2 : a6 = some w := Option.some.inj hw; rw [← hw2]; exact hp)))

theorem go_astore7 {d : Nat} {own : String} {cc : ByteArray} {nL : Nat} {ret : Option FieldType} {pc q : Nat} {st : List Value} {h : AH} {Q : Option Value → AH → Prop} {a0 a1 a2 a3 a4 a5 a6 a7 : Option Value} {r : List (Option Value)} {x : Nat} (hd : decode cc pc = .ok (.astore 7, 2)) (hp : okp a6 = true) (hn : 7 < nL) (hq : pc + 2 = q) (k : Go d own cc nL ret q (a0 :: a1 :: a2 :: a3 :: a4 :: a5 :: a6 :: some (.ref x) :: r) st h Q) : Go d own cc nL ret pc (a0 :: a1 :: a2 :: a3 :: a4 :: a5 :: a6 :: a7 :: r) (.ref x :: st) h Q := by
  subst hq
  intro p l e s m args below meth c α cA D H locs ls C hP hS hl
  exact lv_astore C.1 C.2.1 hd (LO.pairs hl) hn rfl (fun ls hl2 => k p l e s m args below meth c α cA D H locs ls C hP hS (LO.of1 (v := .ref x) hl2 (fun w _ hw => by have hw2 : a6 = some w := Option.some.inj hw; rw [← hw2]; exact hp)))

theorem go_lstore7 {d : Nat} {own : String} {cc : ByteArray} {nL : Nat} {ret : Option FieldType} {pc q : Nat} {st : List Value} {h : AH} {Q : Option Value → AH → Prop} {a0 a1 a2 a3 a4 a5 a6 a7 : Option Value} {b : Option Value} {r : List (Option Value)} {x : Int64} (hd : decode cc pc = .ok (.lstore 7, 2)) (hp : okp a6 = true) (hn : 7 + 1 < nL) (hq : pc + 2 = q) (k : Go d own cc nL ret q (a0 :: a1 :: a2 :: a3 :: a4 :: a5 :: a6 :: some (.long x) :: none :: r) st h Q) : Go d own cc nL ret pc (a0 :: a1 :: a2 :: a3 :: a4 :: a5 :: a6 :: a7 :: b :: r) (.long x :: st) h Q := by
  subst hq
  intro p l e s m args below meth c α cA D H locs ls C hP hS hl
  exact lv_lstore C.1 C.2.1 hd (LO.pairs hl) hn rfl (fun ls hl2 => k p l e s m args below meth c α cA D H locs ls C hP hS (LO.of2 (v := .long x) hl2 (fun w _ hw => by have hw2 : a6 = some w := Option.some.inj hw; rw [← hw2]; exact hp)))

theorem go_iinc7 {d : Nat} {own : String} {cc : ByteArray} {nL : Nat} {ret : Option FieldType} {pc q : Nat} {st : List Value} {h : AH} {Q : Option Value → AH → Prop} {a0 a1 a2 a3 a4 a5 a6 : Option Value} {r : List (Option Value)} {x : Int32} {n : Int} (hd : decode cc pc = .ok (.iinc 7 n, 3)) (hp : okp a6 = true) (hn : 7 < nL) (hq : pc + 3 = q) (k : Go d own cc nL ret q (a0 :: a1 :: a2 :: a3 :: a4 :: a5 :: a6 :: some (.int (x + Int32.ofInt n)) :: r) st h Q) : Go d own cc nL ret pc (a0 :: a1 :: a2 :: a3 :: a4 :: a5 :: a6 :: some (.int x) :: r) st h Q := by
  subst hq
  intro p l e s m args below meth c α cA D H locs ls C hP hS hl
  obtain ⟨kk, hkk⟩ := List.getElem?_of_mem (lp_mem (lo := (a0 :: a1 :: a2 :: a3 :: a4 :: a5 :: a6 :: some (.int x) :: r)) (α := α) (j := 7) (w := .int x) rfl)
  exact lv_iinc C.1 C.2.1 hd (LO.pairs hl) hkk rfl hn rfl (fun ls hl2 => k p l e s m args below meth c α cA D H locs ls C hP hS (LO.of1 (v := .int (x + Int32.ofInt n)) hl2 (fun w _ hw => by have hw2 : a6 = some w := Option.some.inj hw; rw [← hw2]; exact hp)))

theorem go_iincN7 {d : Nat} {own : String} {cc : ByteArray} {nL : Nat} {ret : Option FieldType} {pc q : Nat} {st : List Value} {h : AH} {Q : Option Value → AH → Prop} {a0 a1 a2 a3 a4 a5 a6 : Option Value} {r : List (Option Value)} {x : Nat} {n : Nat} (hd : decode cc pc = .ok (.iinc 7 (n : Nat), 3)) (hp : okp a6 = true) (hn : 7 < nL) (hq : pc + 3 = q) (k : Go d own cc nL ret q (a0 :: a1 :: a2 :: a3 :: a4 :: a5 :: a6 :: some (.int (nI (x + n))) :: r) st h Q) : Go d own cc nL ret pc (a0 :: a1 :: a2 :: a3 :: a4 :: a5 :: a6 :: some (.int (nI x)) :: r) st h Q := by
  subst hq
  intro p l e s m args below meth c α cA D H locs ls C hP hS hl
  obtain ⟨kk, hkk⟩ := List.getElem?_of_mem (lp_mem (lo := (a0 :: a1 :: a2 :: a3 :: a4 :: a5 :: a6 :: some (.int (nI x)) :: r)) (α := α) (j := 7) (w := .int (nI x)) rfl)
  exact lv_iinc C.1 C.2.1 hd (LO.pairs hl) hkk (nI_add x n) hn rfl (fun ls hl2 => k p l e s m args below meth c α cA D H locs ls C hP hS (LO.of1 (v := .int (nI (x + n))) hl2 (fun w _ hw => by have hw2 : a6 = some w := Option.some.inj hw; rw [← hw2]; exact hp)))

theorem go_istore8 {d : Nat} {own : String} {cc : ByteArray} {nL : Nat} {ret : Option FieldType} {pc q : Nat} {st : List Value} {h : AH} {Q : Option Value → AH → Prop} {a0 a1 a2 a3 a4 a5 a6 a7 a8 : Option Value} {r : List (Option Value)} {x : Int32} (hd : decode cc pc = .ok (.istore 8, 2)) (hp : okp a7 = true) (hn : 8 < nL) (hq : pc + 2 = q) (k : Go d own cc nL ret q (a0 :: a1 :: a2 :: a3 :: a4 :: a5 :: a6 :: a7 :: some (.int x) :: r) st h Q) : Go d own cc nL ret pc (a0 :: a1 :: a2 :: a3 :: a4 :: a5 :: a6 :: a7 :: a8 :: r) (.int x :: st) h Q := by
  subst hq
  intro p l e s m args below meth c α cA D H locs ls C hP hS hl
  exact lv_istore C.1 C.2.1 hd (LO.pairs hl) hn rfl (fun ls hl2 => k p l e s m args below meth c α cA D H locs ls C hP hS (LO.of1 (v := .int x) hl2 (fun w _ hw => by have hw2 : a7 = some w := Option.some.inj hw; rw [← hw2]; exact hp)))

theorem go_astore8 {d : Nat} {own : String} {cc : ByteArray} {nL : Nat} {ret : Option FieldType} {pc q : Nat} {st : List Value} {h : AH} {Q : Option Value → AH → Prop} {a0 a1 a2 a3 a4 a5 a6 a7 a8 : Option Value} {r : List (Option Value)} {x : Nat} (hd : decode cc pc = .ok (.astore 8, 2)) (hp : okp a7 = true) (hn : 8 < nL) (hq : pc + 2 = q) (k : Go d own cc nL ret q (a0 :: a1 :: a2 :: a3 :: a4 :: a5 :: a6 :: a7 :: some (.ref x) :: r) st h Q) : Go d own cc nL ret pc (a0 :: a1 :: a2 :: a3 :: a4 :: a5 :: a6 :: a7 :: a8 :: r) (.ref x :: st) h Q := by
  subst hq
  intro p l e s m args below meth c α cA D H locs ls C hP hS hl
  exact lv_astore C.1 C.2.1 hd (LO.pairs hl) hn rfl (fun ls hl2 => k p l e s m args below meth c α cA D H locs ls C hP hS (LO.of1 (v := .ref x) hl2 (fun w _ hw => by have hw2 : a7 = some w := Option.some.inj hw; rw [← hw2]; exact hp)))

theorem go_lstore8 {d : Nat} {own : String} {cc : ByteArray} {nL : Nat} {ret : Option FieldType} {pc q : Nat} {st : List Value} {h : AH} {Q : Option Value → AH → Prop} {a0 a1 a2 a3 a4 a5 a6 a7 a8 : Option Value} {b : Option Value} {r : List (Option Value)} {x : Int64} (hd : decode cc pc = .ok (.lstore 8, 2)) (hp : okp a7 = true) (hn : 8 + 1 < nL) (hq : pc + 2 = q) (k : Go d own cc nL ret q (a0 :: a1 :: a2 :: a3 :: a4 :: a5 :: a6 :: a7 :: some (.long x) :: none :: r) st h Q) : Go d own cc nL ret pc (a0 :: a1 :: a2 :: a3 :: a4 :: a5 :: a6 :: a7 :: a8 :: b :: r) (.long x :: st) h Q := by
  subst hq
  intro p l e s m args below meth c α cA D H locs ls C hP hS hl
  exact lv_lstore C.1 C.2.1 hd (LO.pairs hl) hn rfl (fun ls hl2 => k p l e s m args below meth c α cA D H locs ls C hP hS (LO.of2 (v := .long x) hl2 (fun w _ hw => by have hw2 : a7 = some w := Option.some.inj hw; rw [← hw2]; exact hp)))

theorem go_iinc8 {d : Nat} {own : String} {cc : ByteArray} {nL : Nat} {ret : Option FieldType} {pc q : Nat} {st : List Value} {h : AH} {Q : Option Value → AH → Prop} {a0 a1 a2 a3 a4 a5 a6 a7 : Option Value} {r : List (Option Value)} {x : Int32} {n : Int} (hd : decode cc pc = .ok (.iinc 8 n, 3)) (hp : okp a7 = true) (hn : 8 < nL) (hq : pc + 3 = q) (k : Go d own cc nL ret q (a0 :: a1 :: a2 :: a3 :: a4 :: a5 :: a6 :: a7 :: some (.int (x + Int32.ofInt n)) :: r) st h Q) : Go d own cc nL ret pc (a0 :: a1 :: a2 :: a3 :: a4 :: a5 :: a6 :: a7 :: some (.int x) :: r) st h Q := by
  subst hq
  intro p l e s m args below meth c α cA D H locs ls C hP hS hl
  obtain ⟨kk, hkk⟩ := List.getElem?_of_mem (lp_mem (lo := (a0 :: a1 :: a2 :: a3 :: a4 :: a5 :: a6 :: a7 :: some (.int x) :: r)) (α := α) (j := 8) (w := .int x) rfl)
  exact lv_iinc C.1 C.2.1 hd (LO.pairs hl) hkk rfl hn rfl (fun ls hl2 => k p l e s m args below meth c α cA D H locs ls C hP hS (LO.of1 (v := .int (x + Int32.ofInt n)) hl2 (fun w _ hw => by have hw2 : a7 = some w := Option.some.inj hw; rw [← hw2]; exact hp)))

theorem go_iincN8 {d : Nat} {own : String} {cc : ByteArray} {nL : Nat} {ret : Option FieldType} {pc q : Nat} {st : List Value} {h : AH} {Q : Option Value → AH → Prop} {a0 a1 a2 a3 a4 a5 a6 a7 : Option Value} {r : List (Option Value)} {x : Nat} {n : Nat} (hd : decode cc pc = .ok (.iinc 8 (n : Nat), 3)) (hp : okp a7 = true) (hn : 8 < nL) (hq : pc + 3 = q) (k : Go d own cc nL ret q (a0 :: a1 :: a2 :: a3 :: a4 :: a5 :: a6 :: a7 :: some (.int (nI (x + n))) :: r) st h Q) : Go d own cc nL ret pc (a0 :: a1 :: a2 :: a3 :: a4 :: a5 :: a6 :: a7 :: some (.int (nI x)) :: r) st h Q := by
  subst hq
  intro p l e s m args below meth c α cA D H locs ls C hP hS hl
  obtain ⟨kk, hkk⟩ := List.getElem?_of_mem (lp_mem (lo := (a0 :: a1 :: a2 :: a3 :: a4 :: a5 :: a6 :: a7 :: some (.int (nI x)) :: r)) (α := α) (j := 8) (w := .int (nI x)) rfl)
  exact lv_iinc C.1 C.2.1 hd (LO.pairs hl) hkk (nI_add x n) hn rfl (fun ls hl2 => k p l e s m args below meth c α cA D H locs ls C hP hS (LO.of1 (v := .int (nI (x + n))) hl2 (fun w _ hw => by have hw2 : a7 = some w := Option.some.inj hw; rw [← hw2]; exact hp)))

theorem go_istore9 {d : Nat} {own : String} {cc : ByteArray} {nL : Nat} {ret : Option FieldType} {pc q : Nat} {st : List Value} {h : AH} {Q : Option Value → AH → Prop} {a0 a1 a2 a3 a4 a5 a6 a7 a8 a9 : Option Value} {r : List (Option Value)} {x : Int32} (hd : decode cc pc = .ok (.istore 9, 2)) (hp : okp a8 = true) (hn : 9 < nL) (hq : pc + 2 = q) (k : Go d own cc nL ret q (a0 :: a1 :: a2 :: a3 :: a4 :: a5 :: a6 :: a7 :: a8 :: some (.int x) :: r) st h Q) : Go d own cc nL ret pc (a0 :: a1 :: a2 :: a3 :: a4 :: a5 :: a6 :: a7 :: a8 :: a9 :: r) (.int x :: st) h Q := by
  subst hq
  intro p l e s m args below meth c α cA D H locs ls C hP hS hl
  exact lv_istore C.1 C.2.1 hd (LO.pairs hl) hn rfl (fun ls hl2 => k p l e s m args below meth c α cA D H locs ls C hP hS (LO.of1 (v := .int x) hl2 (fun w _ hw => by have hw2 : a8 = some w := Option.some.inj hw; rw [← hw2]; exact hp)))

theorem go_astore9 {d : Nat} {own : String} {cc : ByteArray} {nL : Nat} {ret : Option FieldType} {pc q : Nat} {st : List Value} {h : AH} {Q : Option Value → AH → Prop} {a0 a1 a2 a3 a4 a5 a6 a7 a8 a9 : Option Value} {r : List (Option Value)} {x : Nat} (hd : decode cc pc = .ok (.astore 9, 2)) (hp : okp a8 = true) (hn : 9 < nL) (hq : pc + 2 = q) (k : Go d own cc nL ret q (a0 :: a1 :: a2 :: a3 :: a4 :: a5 :: a6 :: a7 :: a8 :: some (.ref x) :: r) st h Q) : Go d own cc nL ret pc (a0 :: a1 :: a2 :: a3 :: a4 :: a5 :: a6 :: a7 :: a8 :: a9 :: r) (.ref x :: st) h Q := by
  subst hq
  intro p l e s m args below meth c α cA D H locs ls C hP hS hl
  exact lv_astore C.1 C.2.1 hd (LO.pairs hl) hn rfl (fun ls hl2 => k p l e s m args below meth c α cA D H locs ls C hP hS (LO.of1 (v := .ref x) hl2 (fun w _ hw => by have hw2 : a8 = some w := Option.some.inj hw; rw [← hw2]; exact hp)))

theorem go_lstore9 {d : Nat} {own : String} {cc : ByteArray} {nL : Nat} {ret : Option FieldType} {pc q : Nat} {st : List Value} {h : AH} {Q : Option Value → AH → Prop} {a0 a1 a2 a3 a4 a5 a6 a7 a8 a9 : Option Value} {b : Option Value} {r : List (Option Value)} {x : Int64} (hd : decode cc pc = .ok (.lstore 9, 2)) (hp : okp a8 = true) (hn : 9 + 1 < nL) (hq : pc + 2 = q) (k : Go d own cc nL ret q (a0 :: a1 :: a2 :: a3 :: a4 :: a5 :: a6 :: a7 :: a8 :: some (.long x) :: none :: r) st h Q) : Go d own cc nL ret pc (a0 :: a1 :: a2 :: a3 :: a4 :: a5 :: a6 :: a7 :: a8 :: a9 :: b :: r) (.long x :: st) h Q := by
  subst hq
  intro p l e s m args below meth c α cA D H locs ls C hP hS hl
  exact lv_lstore C.1 C.2.1 hd (LO.pairs hl) hn rfl (fun ls hl2 => k p l e s m args below meth c α cA D H locs ls C hP hS (LO.of2 (v := .long x) hl2 (fun w _ hw => by have hw2 : a8 = some w := Option.some.inj hw; rw [← hw2]; exact hp)))

theorem go_iinc9 {d : Nat} {own : String} {cc : ByteArray} {nL : Nat} {ret : Option FieldType} {pc q : Nat} {st : List Value} {h : AH} {Q : Option Value → AH → Prop} {a0 a1 a2 a3 a4 a5 a6 a7 a8 : Option Value} {r : List (Option Value)} {x : Int32} {n : Int} (hd : decode cc pc = .ok (.iinc 9 n, 3)) (hp : okp a8 = true) (hn : 9 < nL) (hq : pc + 3 = q) (k : Go d own cc nL ret q (a0 :: a1 :: a2 :: a3 :: a4 :: a5 :: a6 :: a7 :: a8 :: some (.int (x + Int32.ofInt n)) :: r) st h Q) : Go d own cc nL ret pc (a0 :: a1 :: a2 :: a3 :: a4 :: a5 :: a6 :: a7 :: a8 :: some (.int x) :: r) st h Q := by
  subst hq
  intro p l e s m args below meth c α cA D H locs ls C hP hS hl
  obtain ⟨kk, hkk⟩ := List.getElem?_of_mem (lp_mem (lo := (a0 :: a1 :: a2 :: a3 :: a4 :: a5 :: a6 :: a7 :: a8 :: some (.int x) :: r)) (α := α) (j := 9) (w := .int x) rfl)
  exact lv_iinc C.1 C.2.1 hd (LO.pairs hl) hkk rfl hn rfl (fun ls hl2 => k p l e s m args below meth c α cA D H locs ls C hP hS (LO.of1 (v := .int (x + Int32.ofInt n)) hl2 (fun w _ hw => by have hw2 : a8 = some w := Option.some.inj hw; rw [← hw2]; exact hp)))

theorem go_iincN9 {d : Nat} {own : String} {cc : ByteArray} {nL : Nat} {ret : Option FieldType} {pc q : Nat} {st : List Value} {h : AH} {Q : Option Value → AH → Prop} {a0 a1 a2 a3 a4 a5 a6 a7 a8 : Option Value} {r : List (Option Value)} {x : Nat} {n : Nat} (hd : decode cc pc = .ok (.iinc 9 (n : Nat), 3)) (hp : okp a8 = true) (hn : 9 < nL) (hq : pc + 3 = q) (k : Go d own cc nL ret q (a0 :: a1 :: a2 :: a3 :: a4 :: a5 :: a6 :: a7 :: a8 :: some (.int (nI (x + n))) :: r) st h Q) : Go d own cc nL ret pc (a0 :: a1 :: a2 :: a3 :: a4 :: a5 :: a6 :: a7 :: a8 :: some (.int (nI x)) :: r) st h Q := by
  subst hq
  intro p l e s m args below meth c α cA D H locs ls C hP hS hl
  obtain ⟨kk, hkk⟩ := List.getElem?_of_mem (lp_mem (lo := (a0 :: a1 :: a2 :: a3 :: a4 :: a5 :: a6 :: a7 :: a8 :: some (.int (nI x)) :: r)) (α := α) (j := 9) (w := .int (nI x)) rfl)
  exact lv_iinc C.1 C.2.1 hd (LO.pairs hl) hkk (nI_add x n) hn rfl (fun ls hl2 => k p l e s m args below meth c α cA D H locs ls C hP hS (LO.of1 (v := .int (nI (x + n))) hl2 (fun w _ hw => by have hw2 : a8 = some w := Option.some.inj hw; rw [← hw2]; exact hp)))

theorem go_istore10 {d : Nat} {own : String} {cc : ByteArray} {nL : Nat} {ret : Option FieldType} {pc q : Nat} {st : List Value} {h : AH} {Q : Option Value → AH → Prop} {a0 a1 a2 a3 a4 a5 a6 a7 a8 a9 a10 : Option Value} {r : List (Option Value)} {x : Int32} (hd : decode cc pc = .ok (.istore 10, 2)) (hp : okp a9 = true) (hn : 10 < nL) (hq : pc + 2 = q) (k : Go d own cc nL ret q (a0 :: a1 :: a2 :: a3 :: a4 :: a5 :: a6 :: a7 :: a8 :: a9 :: some (.int x) :: r) st h Q) : Go d own cc nL ret pc (a0 :: a1 :: a2 :: a3 :: a4 :: a5 :: a6 :: a7 :: a8 :: a9 :: a10 :: r) (.int x :: st) h Q := by
  subst hq
  intro p l e s m args below meth c α cA D H locs ls C hP hS hl
  exact lv_istore C.1 C.2.1 hd (LO.pairs hl) hn rfl (fun ls hl2 => k p l e s m args below meth c α cA D H locs ls C hP hS (LO.of1 (v := .int x) hl2 (fun w _ hw => by have hw2 : a9 = some w := Option.some.inj hw; rw [← hw2]; exact hp)))

theorem go_astore10 {d : Nat} {own : String} {cc : ByteArray} {nL : Nat} {ret : Option FieldType} {pc q : Nat} {st : List Value} {h : AH} {Q : Option Value → AH → Prop} {a0 a1 a2 a3 a4 a5 a6 a7 a8 a9 a10 : Option Value} {r : List (Option Value)} {x : Nat} (hd : decode cc pc = .ok (.astore 10, 2)) (hp : okp a9 = true) (hn : 10 < nL) (hq : pc + 2 = q) (k : Go d own cc nL ret q (a0 :: a1 :: a2 :: a3 :: a4 :: a5 :: a6 :: a7 :: a8 :: a9 :: some (.ref x) :: r) st h Q) : Go d own cc nL ret pc (a0 :: a1 :: a2 :: a3 :: a4 :: a5 :: a6 :: a7 :: a8 :: a9 :: a10 :: r) (.ref x :: st) h Q := by
  subst hq
  intro p l e s m args below meth c α cA D H locs ls C hP hS hl
  exact lv_astore C.1 C.2.1 hd (LO.pairs hl) hn rfl (fun ls hl2 => k p l e s m args below meth c α cA D H locs ls C hP hS (LO.of1 (v := .ref x) hl2 (fun w _ hw => by have hw2 : a9 = some w := Option.some.inj hw; rw [← hw2]; exact hp)))

theorem go_lstore10 {d : Nat} {own : String} {cc : ByteArray} {nL : Nat} {ret : Option FieldType} {pc q : Nat} {st : List Value} {h : AH} {Q : Option Value → AH → Prop} {a0 a1 a2 a3 a4 a5 a6 a7 a8 a9 a10 : Option Value} {b : Option Value} {r : List (Option Value)} {x : Int64} (hd : decode cc pc = .ok (.lstore 10, 2)) (hp : okp a9 = true) (hn : 10 + 1 < nL) (hq : pc + 2 = q) (k : Go d own cc nL ret q (a0 :: a1 :: a2 :: a3 :: a4 :: a5 :: a6 :: a7 :: a8 :: a9 :: some (.long x) :: none :: r) st h Q) : Go d own cc nL ret pc (a0 :: a1 :: a2 :: a3 :: a4 :: a5 :: a6 :: a7 :: a8 :: a9 :: a10 :: b :: r) (.long x :: st) h Q := by
  subst hq
  intro p l e s m args below meth c α cA D H locs ls C hP hS hl
  exact lv_lstore C.1 C.2.1 hd (LO.pairs hl) hn rfl (fun ls hl2 => k p l e s m args below meth c α cA D H locs ls C hP hS (LO.of2 (v := .long x) hl2 (fun w _ hw => by have hw2 : a9 = some w := Option.some.inj hw; rw [← hw2]; exact hp)))

theorem go_iinc10 {d : Nat} {own : String} {cc : ByteArray} {nL : Nat} {ret : Option FieldType} {pc q : Nat} {st : List Value} {h : AH} {Q : Option Value → AH → Prop} {a0 a1 a2 a3 a4 a5 a6 a7 a8 a9 : Option Value} {r : List (Option Value)} {x : Int32} {n : Int} (hd : decode cc pc = .ok (.iinc 10 n, 3)) (hp : okp a9 = true) (hn : 10 < nL) (hq : pc + 3 = q) (k : Go d own cc nL ret q (a0 :: a1 :: a2 :: a3 :: a4 :: a5 :: a6 :: a7 :: a8 :: a9 :: some (.int (x + Int32.ofInt n)) :: r) st h Q) : Go d own cc nL ret pc (a0 :: a1 :: a2 :: a3 :: a4 :: a5 :: a6 :: a7 :: a8 :: a9 :: some (.int x) :: r) st h Q := by
  subst hq
  intro p l e s m args below meth c α cA D H locs ls C hP hS hl
  obtain ⟨kk, hkk⟩ := List.getElem?_of_mem (lp_mem (lo := (a0 :: a1 :: a2 :: a3 :: a4 :: a5 :: a6 :: a7 :: a8 :: a9 :: some (.int x) :: r)) (α := α) (j := 10) (w := .int x) rfl)
  exact lv_iinc C.1 C.2.1 hd (LO.pairs hl) hkk rfl hn rfl (fun ls hl2 => k p l e s m args below meth c α cA D H locs ls C hP hS (LO.of1 (v := .int (x + Int32.ofInt n)) hl2 (fun w _ hw => by have hw2 : a9 = some w := Option.some.inj hw; rw [← hw2]; exact hp)))

theorem go_iincN10 {d : Nat} {own : String} {cc : ByteArray} {nL : Nat} {ret : Option FieldType} {pc q : Nat} {st : List Value} {h : AH} {Q : Option Value → AH → Prop} {a0 a1 a2 a3 a4 a5 a6 a7 a8 a9 : Option Value} {r : List (Option Value)} {x : Nat} {n : Nat} (hd : decode cc pc = .ok (.iinc 10 (n : Nat), 3)) (hp : okp a9 = true) (hn : 10 < nL) (hq : pc + 3 = q) (k : Go d own cc nL ret q (a0 :: a1 :: a2 :: a3 :: a4 :: a5 :: a6 :: a7 :: a8 :: a9 :: some (.int (nI (x + n))) :: r) st h Q) : Go d own cc nL ret pc (a0 :: a1 :: a2 :: a3 :: a4 :: a5 :: a6 :: a7 :: a8 :: a9 :: some (.int (nI x)) :: r) st h Q := by
  subst hq
  intro p l e s m args below meth c α cA D H locs ls C hP hS hl
  obtain ⟨kk, hkk⟩ := List.getElem?_of_mem (lp_mem (lo := (a0 :: a1 :: a2 :: a3 :: a4 :: a5 :: a6 :: a7 :: a8 :: a9 :: some (.int (nI x)) :: r)) (α := α) (j := 10) (w := .int (nI x)) rfl)
  exact lv_iinc C.1 C.2.1 hd (LO.pairs hl) hkk (nI_add x n) hn rfl (fun ls hl2 => k p l e s m args below meth c α cA D H locs ls C hP hS (LO.of1 (v := .int (nI (x + n))) hl2 (fun w _ hw => by have hw2 : a9 = some w := Option.some.inj hw; rw [← hw2]; exact hp)))

theorem go_istore11 {d : Nat} {own : String} {cc : ByteArray} {nL : Nat} {ret : Option FieldType} {pc q : Nat} {st : List Value} {h : AH} {Q : Option Value → AH → Prop} {a0 a1 a2 a3 a4 a5 a6 a7 a8 a9 a10 a11 : Option Value} {r : List (Option Value)} {x : Int32} (hd : decode cc pc = .ok (.istore 11, 2)) (hp : okp a10 = true) (hn : 11 < nL) (hq : pc + 2 = q) (k : Go d own cc nL ret q (a0 :: a1 :: a2 :: a3 :: a4 :: a5 :: a6 :: a7 :: a8 :: a9 :: a10 :: some (.int x) :: r) st h Q) : Go d own cc nL ret pc (a0 :: a1 :: a2 :: a3 :: a4 :: a5 :: a6 :: a7 :: a8 :: a9 :: a10 :: a11 :: r) (.int x :: st) h Q := by
  subst hq
  intro p l e s m args below meth c α cA D H locs ls C hP hS hl
  exact lv_istore C.1 C.2.1 hd (LO.pairs hl) hn rfl (fun ls hl2 => k p l e s m args below meth c α cA D H locs ls C hP hS (LO.of1 (v := .int x) hl2 (fun w _ hw => by have hw2 : a10 = some w := Option.some.inj hw; rw [← hw2]; exact hp)))

theorem go_astore11 {d : Nat} {own : String} {cc : ByteArray} {nL : Nat} {ret : Option FieldType} {pc q : Nat} {st : List Value} {h : AH} {Q : Option Value → AH → Prop} {a0 a1 a2 a3 a4 a5 a6 a7 a8 a9 a10 a11 : Option Value} {r : List (Option Value)} {x : Nat} (hd : decode cc pc = .ok (.astore 11, 2)) (hp : okp a10 = true) (hn : 11 < nL) (hq : pc + 2 = q) (k : Go d own cc nL ret q (a0 :: a1 :: a2 :: a3 :: a4 :: a5 :: a6 :: a7 :: a8 :: a9 :: a10 :: some (.ref x) :: r) st h Q) : Go d own cc nL ret pc (a0 :: a1 :: a2 :: a3 :: a4 :: a5 :: a6 :: a7 :: a8 :: a9 :: a10 :: a11 :: r) (.ref x :: st) h Q := by
  subst hq
  intro p l e s m args below meth c α cA D H locs ls C hP hS hl
  exact lv_astore C.1 C.2.1 hd (LO.pairs hl) hn rfl (fun ls hl2 => k p l e s m args below meth c α cA D H locs ls C hP hS (LO.of1 (v := .ref x) hl2 (fun w _ hw => by have hw2 : a10 = some w := Option.some.inj hw; rw [← hw2]; exact hp)))

theorem go_lstore11 {d : Nat} {own : String} {cc : ByteArray} {nL : Nat} {ret : Option FieldType} {pc q : Nat} {st : List Value} {h : AH} {Q : Option Value → AH → Prop} {a0 a1 a2 a3 a4 a5 a6 a7 a8 a9 a10 a11 : Option Value} {b : Option Value} {r : List (Option Value)} {x : Int64} (hd : decode cc pc = .ok (.lstore 11, 2)) (hp : okp a10 = true) (hn : 11 + 1 < nL) (hq : pc + 2 = q) (k : Go d own cc nL ret q (a0 :: a1 :: a2 :: a3 :: a4 :: a5 :: a6 :: a7 :: a8 :: a9 :: a10 :: some (.long x) :: none :: r) st h Q) : Go d own cc nL ret pc (a0 :: a1 :: a2 :: a3 :: a4 :: a5 :: a6 :: a7 :: a8 :: a9 :: a10 :: a11 :: b :: r) (.long x :: st) h Q := by
  subst hq
  intro p l e s m args below meth c α cA D H locs ls C hP hS hl
  exact lv_lstore C.1 C.2.1 hd (LO.pairs hl) hn rfl (fun ls hl2 => k p l e s m args below meth c α cA D H locs ls C hP hS (LO.of2 (v := .long x) hl2 (fun w _ hw => by have hw2 : a10 = some w := Option.some.inj hw; rw [← hw2]; exact hp)))

theorem go_iinc11 {d : Nat} {own : String} {cc : ByteArray} {nL : Nat} {ret : Option FieldType} {pc q : Nat} {st : List Value} {h : AH} {Q : Option Value → AH → Prop} {a0 a1 a2 a3 a4 a5 a6 a7 a8 a9 a10 : Option Value} {r : List (Option Value)} {x : Int32} {n : Int} (hd : decode cc pc = .ok (.iinc 11 n, 3)) (hp : okp a10 = true) (hn : 11 < nL) (hq : pc + 3 = q) (k : Go d own cc nL ret q (a0 :: a1 :: a2 :: a3 :: a4 :: a5 :: a6 :: a7 :: a8 :: a9 :: a10 :: some (.int (x + Int32.ofInt n)) :: r) st h Q) : Go d own cc nL ret pc (a0 :: a1 :: a2 :: a3 :: a4 :: a5 :: a6 :: a7 :: a8 :: a9 :: a10 :: some (.int x) :: r) st h Q := by
  subst hq
  intro p l e s m args below meth c α cA D H locs ls C hP hS hl
  obtain ⟨kk, hkk⟩ := List.getElem?_of_mem (lp_mem (lo := (a0 :: a1 :: a2 :: a3 :: a4 :: a5 :: a6 :: a7 :: a8 :: a9 :: a10 :: some (.int x) :: r)) (α := α) (j := 11) (w := .int x) rfl)
  exact lv_iinc C.1 C.2.1 hd (LO.pairs hl) hkk rfl hn rfl (fun ls hl2 => k p l e s m args below meth c α cA D H locs ls C hP hS (LO.of1 (v := .int (x + Int32.ofInt n)) hl2 (fun w _ hw => by have hw2 : a10 = some w := Option.some.inj hw; rw [← hw2]; exact hp)))

theorem go_iincN11 {d : Nat} {own : String} {cc : ByteArray} {nL : Nat} {ret : Option FieldType} {pc q : Nat} {st : List Value} {h : AH} {Q : Option Value → AH → Prop} {a0 a1 a2 a3 a4 a5 a6 a7 a8 a9 a10 : Option Value} {r : List (Option Value)} {x : Nat} {n : Nat} (hd : decode cc pc = .ok (.iinc 11 (n : Nat), 3)) (hp : okp a10 = true) (hn : 11 < nL) (hq : pc + 3 = q) (k : Go d own cc nL ret q (a0 :: a1 :: a2 :: a3 :: a4 :: a5 :: a6 :: a7 :: a8 :: a9 :: a10 :: some (.int (nI (x + n))) :: r) st h Q) : Go d own cc nL ret pc (a0 :: a1 :: a2 :: a3 :: a4 :: a5 :: a6 :: a7 :: a8 :: a9 :: a10 :: some (.int (nI x)) :: r) st h Q := by
  subst hq
  intro p l e s m args below meth c α cA D H locs ls C hP hS hl
  obtain ⟨kk, hkk⟩ := List.getElem?_of_mem (lp_mem (lo := (a0 :: a1 :: a2 :: a3 :: a4 :: a5 :: a6 :: a7 :: a8 :: a9 :: a10 :: some (.int (nI x)) :: r)) (α := α) (j := 11) (w := .int (nI x)) rfl)
  exact lv_iinc C.1 C.2.1 hd (LO.pairs hl) hkk (nI_add x n) hn rfl (fun ls hl2 => k p l e s m args below meth c α cA D H locs ls C hP hS (LO.of1 (v := .int (nI (x + n))) hl2 (fun w _ hw => by have hw2 : a10 = some w := Option.some.inj hw; rw [← hw2]; exact hp)))

theorem go_iadd {d : Nat} {own : String} {cc : ByteArray} {nL : Nat} {ret : Option FieldType} {pc q : Nat} {lo : List (Option Value)} {st : List Value} {h : AH} {Q : Option Value → AH → Prop} {x y : Int32} (hd : decode cc pc = .ok (.iadd, 1))  (hq : pc + 1 = q) (k : Go d own cc nL ret q lo (.int (x + y) :: st) h Q) : Go d own cc nL ret pc lo (.int y :: .int x :: st) h Q := by
  subst hq
  intro p l e s m args below meth c α cA D H locs ls C hP hS hl
  exact lv_iadd C.1 C.2.1 hd (k p l e s m args below meth c α cA D H locs ls C hP hS hl)

theorem go_isub {d : Nat} {own : String} {cc : ByteArray} {nL : Nat} {ret : Option FieldType} {pc q : Nat} {lo : List (Option Value)} {st : List Value} {h : AH} {Q : Option Value → AH → Prop} {x y : Int32} (hd : decode cc pc = .ok (.isub, 1))  (hq : pc + 1 = q) (k : Go d own cc nL ret q lo (.int (x - y) :: st) h Q) : Go d own cc nL ret pc lo (.int y :: .int x :: st) h Q := by
  subst hq
  intro p l e s m args below meth c α cA D H locs ls C hP hS hl
  exact lv_isub C.1 C.2.1 hd (k p l e s m args below meth c α cA D H locs ls C hP hS hl)

theorem go_imul {d : Nat} {own : String} {cc : ByteArray} {nL : Nat} {ret : Option FieldType} {pc q : Nat} {lo : List (Option Value)} {st : List Value} {h : AH} {Q : Option Value → AH → Prop} {x y : Int32} (hd : decode cc pc = .ok (.imul, 1))  (hq : pc + 1 = q) (k : Go d own cc nL ret q lo (.int (x * y) :: st) h Q) : Go d own cc nL ret pc lo (.int y :: .int x :: st) h Q := by
  subst hq
  intro p l e s m args below meth c α cA D H locs ls C hP hS hl
  exact lv_imul C.1 C.2.1 hd (k p l e s m args below meth c α cA D H locs ls C hP hS hl)

theorem go_iand {d : Nat} {own : String} {cc : ByteArray} {nL : Nat} {ret : Option FieldType} {pc q : Nat} {lo : List (Option Value)} {st : List Value} {h : AH} {Q : Option Value → AH → Prop} {x y : Int32} (hd : decode cc pc = .ok (.iand, 1))  (hq : pc + 1 = q) (k : Go d own cc nL ret q lo (.int (x &&& y) :: st) h Q) : Go d own cc nL ret pc lo (.int y :: .int x :: st) h Q := by
  subst hq
  intro p l e s m args below meth c α cA D H locs ls C hP hS hl
  exact lv_iand C.1 C.2.1 hd (k p l e s m args below meth c α cA D H locs ls C hP hS hl)

theorem go_ior {d : Nat} {own : String} {cc : ByteArray} {nL : Nat} {ret : Option FieldType} {pc q : Nat} {lo : List (Option Value)} {st : List Value} {h : AH} {Q : Option Value → AH → Prop} {x y : Int32} (hd : decode cc pc = .ok (.ior, 1))  (hq : pc + 1 = q) (k : Go d own cc nL ret q lo (.int (x ||| y) :: st) h Q) : Go d own cc nL ret pc lo (.int y :: .int x :: st) h Q := by
  subst hq
  intro p l e s m args below meth c α cA D H locs ls C hP hS hl
  exact lv_ior C.1 C.2.1 hd (k p l e s m args below meth c α cA D H locs ls C hP hS hl)

theorem go_ixor {d : Nat} {own : String} {cc : ByteArray} {nL : Nat} {ret : Option FieldType} {pc q : Nat} {lo : List (Option Value)} {st : List Value} {h : AH} {Q : Option Value → AH → Prop} {x y : Int32} (hd : decode cc pc = .ok (.ixor, 1))  (hq : pc + 1 = q) (k : Go d own cc nL ret q lo (.int (x ^^^ y) :: st) h Q) : Go d own cc nL ret pc lo (.int y :: .int x :: st) h Q := by
  subst hq
  intro p l e s m args below meth c α cA D H locs ls C hP hS hl
  exact lv_ixor C.1 C.2.1 hd (k p l e s m args below meth c α cA D H locs ls C hP hS hl)

theorem go_ishl {d : Nat} {own : String} {cc : ByteArray} {nL : Nat} {ret : Option FieldType} {pc q : Nat} {lo : List (Option Value)} {st : List Value} {h : AH} {Q : Option Value → AH → Prop} {x y : Int32} (hd : decode cc pc = .ok (.ishl, 1))  (hq : pc + 1 = q) (k : Go d own cc nL ret q lo (.int (x <<< (y &&& 31)) :: st) h Q) : Go d own cc nL ret pc lo (.int y :: .int x :: st) h Q := by
  subst hq
  intro p l e s m args below meth c α cA D H locs ls C hP hS hl
  exact lv_ishl C.1 C.2.1 hd (k p l e s m args below meth c α cA D H locs ls C hP hS hl)

theorem go_ishr {d : Nat} {own : String} {cc : ByteArray} {nL : Nat} {ret : Option FieldType} {pc q : Nat} {lo : List (Option Value)} {st : List Value} {h : AH} {Q : Option Value → AH → Prop} {x y : Int32} (hd : decode cc pc = .ok (.ishr, 1))  (hq : pc + 1 = q) (k : Go d own cc nL ret q lo (.int (x >>> (y &&& 31)) :: st) h Q) : Go d own cc nL ret pc lo (.int y :: .int x :: st) h Q := by
  subst hq
  intro p l e s m args below meth c α cA D H locs ls C hP hS hl
  exact lv_ishr C.1 C.2.1 hd (k p l e s m args below meth c α cA D H locs ls C hP hS hl)

theorem go_iushr {d : Nat} {own : String} {cc : ByteArray} {nL : Nat} {ret : Option FieldType} {pc q : Nat} {lo : List (Option Value)} {st : List Value} {h : AH} {Q : Option Value → AH → Prop} {x y : Int32} (hd : decode cc pc = .ok (.iushr, 1))  (hq : pc + 1 = q) (k : Go d own cc nL ret q lo (.int ((x.toUInt32 >>> (y.toUInt32 &&& Int32.toUInt32 31)).toInt32) :: st) h Q) : Go d own cc nL ret pc lo (.int y :: .int x :: st) h Q := by
  subst hq
  intro p l e s m args below meth c α cA D H locs ls C hP hS hl
  exact lv_iushr C.1 C.2.1 hd rfl (k p l e s m args below meth c α cA D H locs ls C hP hS hl)

theorem go_idiv {d : Nat} {own : String} {cc : ByteArray} {nL : Nat} {ret : Option FieldType} {pc q : Nat} {lo : List (Option Value)} {st : List Value} {h : AH} {Q : Option Value → AH → Prop} {x y : Int32} (hd : decode cc pc = .ok (.idiv, 1)) (hne : ¬ y = 0) (hq : pc + 1 = q) (k : Go d own cc nL ret q lo (.int (x / y) :: st) h Q) : Go d own cc nL ret pc lo (.int y :: .int x :: st) h Q := by
  subst hq
  intro p l e s m args below meth c α cA D H locs ls C hP hS hl
  exact lv_idiv C.1 C.2.1 hd hne (k p l e s m args below meth c α cA D H locs ls C hP hS hl)

theorem go_irem {d : Nat} {own : String} {cc : ByteArray} {nL : Nat} {ret : Option FieldType} {pc q : Nat} {lo : List (Option Value)} {st : List Value} {h : AH} {Q : Option Value → AH → Prop} {x y : Int32} (hd : decode cc pc = .ok (.irem, 1)) (hne : ¬ y = 0) (hq : pc + 1 = q) (k : Go d own cc nL ret q lo (.int (x - x / y * y) :: st) h Q) : Go d own cc nL ret pc lo (.int y :: .int x :: st) h Q := by
  subst hq
  intro p l e s m args below meth c α cA D H locs ls C hP hS hl
  exact lv_irem C.1 C.2.1 hd hne (k p l e s m args below meth c α cA D H locs ls C hP hS hl)

theorem go_i2l {d : Nat} {own : String} {cc : ByteArray} {nL : Nat} {ret : Option FieldType} {pc q : Nat} {lo : List (Option Value)} {st : List Value} {h : AH} {Q : Option Value → AH → Prop} {x : Int32} (hd : decode cc pc = .ok (.i2l, 1))  (hq : pc + 1 = q) (k : Go d own cc nL ret q lo (.long x.toInt64 :: st) h Q) : Go d own cc nL ret pc lo (.int x :: st) h Q := by
  subst hq
  intro p l e s m args below meth c α cA D H locs ls C hP hS hl
  exact lv_i2l C.1 C.2.1 hd rfl (k p l e s m args below meth c α cA D H locs ls C hP hS hl)

theorem go_l2i {d : Nat} {own : String} {cc : ByteArray} {nL : Nat} {ret : Option FieldType} {pc q : Nat} {lo : List (Option Value)} {st : List Value} {h : AH} {Q : Option Value → AH → Prop} {x : Int64} (hd : decode cc pc = .ok (.l2i, 1))  (hq : pc + 1 = q) (k : Go d own cc nL ret q lo (.int x.toInt32 :: st) h Q) : Go d own cc nL ret pc lo (.long x :: st) h Q := by
  subst hq
  intro p l e s m args below meth c α cA D H locs ls C hP hS hl
  exact lv_l2i C.1 C.2.1 hd rfl (k p l e s m args below meth c α cA D H locs ls C hP hS hl)

theorem go_i2b {d : Nat} {own : String} {cc : ByteArray} {nL : Nat} {ret : Option FieldType} {pc q : Nat} {lo : List (Option Value)} {st : List Value} {h : AH} {Q : Option Value → AH → Prop} {x : Int32} (hd : decode cc pc = .ok (.i2b, 1))  (hq : pc + 1 = q) (k : Go d own cc nL ret q lo (.int x.toInt8.toInt32 :: st) h Q) : Go d own cc nL ret pc lo (.int x :: st) h Q := by
  subst hq
  intro p l e s m args below meth c α cA D H locs ls C hP hS hl
  exact lv_i2b C.1 C.2.1 hd rfl (k p l e s m args below meth c α cA D H locs ls C hP hS hl)

theorem go_i2s {d : Nat} {own : String} {cc : ByteArray} {nL : Nat} {ret : Option FieldType} {pc q : Nat} {lo : List (Option Value)} {st : List Value} {h : AH} {Q : Option Value → AH → Prop} {x : Int32} (hd : decode cc pc = .ok (.i2s, 1))  (hq : pc + 1 = q) (k : Go d own cc nL ret q lo (.int x.toInt16.toInt32 :: st) h Q) : Go d own cc nL ret pc lo (.int x :: st) h Q := by
  subst hq
  intro p l e s m args below meth c α cA D H locs ls C hP hS hl
  exact lv_i2s C.1 C.2.1 hd rfl (k p l e s m args below meth c α cA D H locs ls C hP hS hl)

theorem go_lcmp {d : Nat} {own : String} {cc : ByteArray} {nL : Nat} {ret : Option FieldType} {pc q : Nat} {lo : List (Option Value)} {st : List Value} {h : AH} {Q : Option Value → AH → Prop} {x y : Int64} (hd : decode cc pc = .ok (.lcmp, 1))  (hq : pc + 1 = q) (k : Go d own cc nL ret q lo (.int (lg_cmp x y) :: st) h Q) : Go d own cc nL ret pc lo (.long y :: .long x :: st) h Q := by
  subst hq
  intro p l e s m args below meth c α cA D H locs ls C hP hS hl
  exact W.lcmp C.1 C.2.1 hd (k p l e s m args below meth c α cA D H locs ls C hP hS hl)

theorem go_dup {d : Nat} {own : String} {cc : ByteArray} {nL : Nat} {ret : Option FieldType} {pc q : Nat} {lo : List (Option Value)} {st : List Value} {h : AH} {Q : Option Value → AH → Prop} {v : Value} (hd : decode cc pc = .ok (.dup, 1)) (hv : v.category = 1) (hq : pc + 1 = q) (k : Go d own cc nL ret q lo (v :: v :: st) h Q) : Go d own cc nL ret pc lo (v :: st) h Q := by
  subst hq
  intro p l e s m args below meth c α cA D H locs ls C hP hS hl
  exact lv_dup C.1 C.2.1 hd (by rw [cV_cat]; exact hv) (k p l e s m args below meth c α cA D H locs ls C hP hS hl)

theorem go_pop {d : Nat} {own : String} {cc : ByteArray} {nL : Nat} {ret : Option FieldType} {pc q : Nat} {lo : List (Option Value)} {st : List Value} {h : AH} {Q : Option Value → AH → Prop} {v : Value} (hd : decode cc pc = .ok (.pop, 1)) (hv : v.category = 1) (hq : pc + 1 = q) (k : Go d own cc nL ret q lo (st) h Q) : Go d own cc nL ret pc lo (v :: st) h Q := by
  subst hq
  intro p l e s m args below meth c α cA D H locs ls C hP hS hl
  exact lv_pop C.1 C.2.1 hd (by rw [cV_cat]; exact hv) (k p l e s m args below meth c α cA D H locs ls C hP hS hl)

theorem go_dup2 {d : Nat} {own : String} {cc : ByteArray} {nL : Nat} {ret : Option FieldType} {pc q : Nat} {lo : List (Option Value)} {st : List Value} {h : AH} {Q : Option Value → AH → Prop} {v w : Value} (hd : decode cc pc = .ok (.dup2, 1)) (hv : v.category = 1) (hw : w.category = 1) (hq : pc + 1 = q) (k : Go d own cc nL ret q lo (v :: w :: v :: w :: st) h Q) : Go d own cc nL ret pc lo (v :: w :: st) h Q := by
  subst hq
  intro p l e s m args below meth c α cA D H locs ls C hP hS hl
  exact lv_dup2_11 C.1 C.2.1 hd (by rw [cV_cat]; exact hv) (by rw [cV_cat]; exact hw) (k p l e s m args below meth c α cA D H locs ls C hP hS hl)

theorem go_iaddN {d : Nat} {own : String} {cc : ByteArray} {nL : Nat} {ret : Option FieldType} {pc q : Nat} {lo : List (Option Value)} {st : List Value} {h : AH} {Q : Option Value → AH → Prop} {x y : Nat} (hd : decode cc pc = .ok (.iadd, 1))  (hq : pc + 1 = q) (k : Go d own cc nL ret q lo (.int (nI (x + y)) :: st) h Q) : Go d own cc nL ret pc lo (.int (nI y) :: .int (nI x) :: st) h Q := by
  refine go_iadd hd hq ?_
  rw [nI_add]
  exact k

theorem go_isubN {d : Nat} {own : String} {cc : ByteArray} {nL : Nat} {ret : Option FieldType} {pc q : Nat} {lo : List (Option Value)} {st : List Value} {h : AH} {Q : Option Value → AH → Prop} {x y : Nat} (hd : decode cc pc = .ok (.isub, 1)) (hle : y ≤ x) (hq : pc + 1 = q) (k : Go d own cc nL ret q lo (.int (nI (x - y)) :: st) h Q) : Go d own cc nL ret pc lo (.int (nI y) :: .int (nI x) :: st) h Q := by
  refine go_isub hd hq ?_
  rw [pk_sub hle]
  exact k

theorem go_imulN {d : Nat} {own : String} {cc : ByteArray} {nL : Nat} {ret : Option FieldType} {pc q : Nat} {lo : List (Option Value)} {st : List Value} {h : AH} {Q : Option Value → AH → Prop} {x y : Nat} (hd : decode cc pc = .ok (.imul, 1))  (hq : pc + 1 = q) (k : Go d own cc nL ret q lo (.int (nI (x * y)) :: st) h Q) : Go d own cc nL ret pc lo (.int (nI y) :: .int (nI x) :: st) h Q := by
  refine go_imul hd hq ?_
  rw [pk_mul]
  exact k

theorem go_idivN {d : Nat} {own : String} {cc : ByteArray} {nL : Nat} {ret : Option FieldType} {pc q : Nat} {lo : List (Option Value)} {st : List Value} {h : AH} {Q : Option Value → AH → Prop} {x y : Nat} (hd : decode cc pc = .ok (.idiv, 1)) (h0 : 0 < y) (hx : x < 2 ^ 31) (hy : y < 2 ^ 31) (hq : pc + 1 = q) (k : Go d own cc nL ret q lo (.int (nI (x / y)) :: st) h Q) : Go d own cc nL ret pc lo (.int (nI y) :: .int (nI x) :: st) h Q := by
  refine go_idiv hd (nI_ne0 h0 hy) hq ?_
  rw [pk_div hx h0 hy]
  exact k

theorem go_iremN {d : Nat} {own : String} {cc : ByteArray} {nL : Nat} {ret : Option FieldType} {pc q : Nat} {lo : List (Option Value)} {st : List Value} {h : AH} {Q : Option Value → AH → Prop} {x y : Nat} (hd : decode cc pc = .ok (.irem, 1)) (h0 : 0 < y) (hx : x < 2 ^ 31) (hy : y < 2 ^ 31) (hq : pc + 1 = q) (k : Go d own cc nL ret q lo (.int (nI (x % y)) :: st) h Q) : Go d own cc nL ret pc lo (.int (nI y) :: .int (nI x) :: st) h Q := by
  refine go_irem hd (nI_ne0 h0 hy) hq ?_
  rw [pk_rem hx h0 hy]
  exact k

theorem go_icmp_eq {d : Nat} {own : String} {cc : ByteArray} {nL : Nat} {ret : Option FieldType} {pc q : Nat} {lo : List (Option Value)} {st : List Value} {h : AH} {Q : Option Value → AH → Prop} {x y : Int32} {off : Int} {tgt : Nat} (hd : decode cc pc = .ok (.if_icmp .eq off, 3)) (ht : (pc : Int) + off = (tgt : Int)) (hq : pc + 3 = q) (kt : x = y → Go d own cc nL ret tgt lo st h Q) (kf : ¬ x = y → Go d own cc nL ret q lo st h Q) : Go d own cc nL ret pc lo (.int y :: .int x :: st) h Q := by
  subst hq
  intro p l e s m args below meth c α cA D H locs ls C hP hS hl
  exact lv_icmp_eq C.1 C.2.1 hd ht (fun z => kt z p l e s m args below meth c α cA D H locs ls C hP hS hl) (fun z => kf z p l e s m args below meth c α cA D H locs ls C hP hS hl)

theorem go_icmp_eqN {d : Nat} {own : String} {cc : ByteArray} {nL : Nat} {ret : Option FieldType} {pc q : Nat} {lo : List (Option Value)} {st : List Value} {h : AH} {Q : Option Value → AH → Prop} {x y : Nat} {off : Int} {tgt : Nat} (hd : decode cc pc = .ok (.if_icmp .eq off, 3)) (ht : (pc : Int) + off = (tgt : Int)) (hq : pc + 3 = q) (hx : x < 2 ^ 31) (hy : y < 2 ^ 31) (kt : x = y → Go d own cc nL ret tgt lo st h Q) (kf : ¬ (x = y) → Go d own cc nL ret q lo st h Q) : Go d own cc nL ret pc lo (.int (nI y) :: .int (nI x) :: st) h Q := go_icmp_eq hd ht hq (fun z => kt ((nI_eq hx hy).mp z)) (fun z => kf (fun w => z ((nI_eq hx hy).mpr w)))

theorem go_if_eq {d : Nat} {own : String} {cc : ByteArray} {nL : Nat} {ret : Option FieldType} {pc q : Nat} {lo : List (Option Value)} {st : List Value} {h : AH} {Q : Option Value → AH → Prop} {x : Int32} {off : Int} {tgt : Nat} (hd : decode cc pc = .ok (.ifCond .eq off, 3)) (ht : (pc : Int) + off = (tgt : Int)) (hq : pc + 3 = q) (kt : x = 0 → Go d own cc nL ret tgt lo st h Q) (kf : ¬ x = 0 → Go d own cc nL ret q lo st h Q) : Go d own cc nL ret pc lo (.int x :: st) h Q := by
  subst hq
  intro p l e s m args below meth c α cA D H locs ls C hP hS hl
  exact lv_if_eq C.1 C.2.1 hd ht (fun z => kt z p l e s m args below meth c α cA D H locs ls C hP hS hl) (fun z => kf z p l e s m args below meth c α cA D H locs ls C hP hS hl)

theorem go_if_eqN {d : Nat} {own : String} {cc : ByteArray} {nL : Nat} {ret : Option FieldType} {pc q : Nat} {lo : List (Option Value)} {st : List Value} {h : AH} {Q : Option Value → AH → Prop} {x : Nat} {off : Int} {tgt : Nat} (hd : decode cc pc = .ok (.ifCond .eq off, 3)) (ht : (pc : Int) + off = (tgt : Int)) (hq : pc + 3 = q) (hx : x < 2 ^ 31) (kt : x = 0 → Go d own cc nL ret tgt lo st h Q) (kf : ¬ (x = 0) → Go d own cc nL ret q lo st h Q) : Go d own cc nL ret pc lo (.int (nI x) :: st) h Q := go_if_eq hd ht hq (fun z => kt ((show nI x = 0 ↔ x = 0 from nI_eq (a := x) (b := 0) hx (by decide)).mp z)) (fun z => kf (fun w => z ((show nI x = 0 ↔ x = 0 from nI_eq (a := x) (b := 0) hx (by decide)).mpr w)))

theorem go_icmp_ne {d : Nat} {own : String} {cc : ByteArray} {nL : Nat} {ret : Option FieldType} {pc q : Nat} {lo : List (Option Value)} {st : List Value} {h : AH} {Q : Option Value → AH → Prop} {x y : Int32} {off : Int} {tgt : Nat} (hd : decode cc pc = .ok (.if_icmp .ne off, 3)) (ht : (pc : Int) + off = (tgt : Int)) (hq : pc + 3 = q) (kt : ¬ x = y → Go d own cc nL ret tgt lo st h Q) (kf : x = y → Go d own cc nL ret q lo st h Q) : Go d own cc nL ret pc lo (.int y :: .int x :: st) h Q := by
  subst hq
  intro p l e s m args below meth c α cA D H locs ls C hP hS hl
  exact lv_icmp_ne C.1 C.2.1 hd ht (fun z => kt z p l e s m args below meth c α cA D H locs ls C hP hS hl) (fun z => kf z p l e s m args below meth c α cA D H locs ls C hP hS hl)

theorem go_icmp_neN {d : Nat} {own : String} {cc : ByteArray} {nL : Nat} {ret : Option FieldType} {pc q : Nat} {lo : List (Option Value)} {st : List Value} {h : AH} {Q : Option Value → AH → Prop} {x y : Nat} {off : Int} {tgt : Nat} (hd : decode cc pc = .ok (.if_icmp .ne off, 3)) (ht : (pc : Int) + off = (tgt : Int)) (hq : pc + 3 = q) (hx : x < 2 ^ 31) (hy : y < 2 ^ 31) (kt : ¬ x = y → Go d own cc nL ret tgt lo st h Q) (kf : x = y → Go d own cc nL ret q lo st h Q) : Go d own cc nL ret pc lo (.int (nI y) :: .int (nI x) :: st) h Q := go_icmp_ne hd ht hq (fun z => kt ((not_congr (nI_eq hx hy)).mp z)) (fun z => kf ((nI_eq hx hy).mp z))

theorem go_if_ne {d : Nat} {own : String} {cc : ByteArray} {nL : Nat} {ret : Option FieldType} {pc q : Nat} {lo : List (Option Value)} {st : List Value} {h : AH} {Q : Option Value → AH → Prop} {x : Int32} {off : Int} {tgt : Nat} (hd : decode cc pc = .ok (.ifCond .ne off, 3)) (ht : (pc : Int) + off = (tgt : Int)) (hq : pc + 3 = q) (kt : ¬ x = 0 → Go d own cc nL ret tgt lo st h Q) (kf : x = 0 → Go d own cc nL ret q lo st h Q) : Go d own cc nL ret pc lo (.int x :: st) h Q := by
  subst hq
  intro p l e s m args below meth c α cA D H locs ls C hP hS hl
  exact lv_if_ne C.1 C.2.1 hd ht (fun z => kt z p l e s m args below meth c α cA D H locs ls C hP hS hl) (fun z => kf z p l e s m args below meth c α cA D H locs ls C hP hS hl)

theorem go_if_neN {d : Nat} {own : String} {cc : ByteArray} {nL : Nat} {ret : Option FieldType} {pc q : Nat} {lo : List (Option Value)} {st : List Value} {h : AH} {Q : Option Value → AH → Prop} {x : Nat} {off : Int} {tgt : Nat} (hd : decode cc pc = .ok (.ifCond .ne off, 3)) (ht : (pc : Int) + off = (tgt : Int)) (hq : pc + 3 = q) (hx : x < 2 ^ 31) (kt : ¬ x = 0 → Go d own cc nL ret tgt lo st h Q) (kf : x = 0 → Go d own cc nL ret q lo st h Q) : Go d own cc nL ret pc lo (.int (nI x) :: st) h Q := go_if_ne hd ht hq (fun z => kt ((not_congr (show nI x = 0 ↔ x = 0 from nI_eq (a := x) (b := 0) hx (by decide))).mp z)) (fun z => kf ((show nI x = 0 ↔ x = 0 from nI_eq (a := x) (b := 0) hx (by decide)).mp z))

theorem go_icmp_lt {d : Nat} {own : String} {cc : ByteArray} {nL : Nat} {ret : Option FieldType} {pc q : Nat} {lo : List (Option Value)} {st : List Value} {h : AH} {Q : Option Value → AH → Prop} {x y : Int32} {off : Int} {tgt : Nat} (hd : decode cc pc = .ok (.if_icmp .lt off, 3)) (ht : (pc : Int) + off = (tgt : Int)) (hq : pc + 3 = q) (kt : x < y → Go d own cc nL ret tgt lo st h Q) (kf : ¬ x < y → Go d own cc nL ret q lo st h Q) : Go d own cc nL ret pc lo (.int y :: .int x :: st) h Q := by
  subst hq
  intro p l e s m args below meth c α cA D H locs ls C hP hS hl
  exact lv_icmp_lt C.1 C.2.1 hd ht (fun z => kt z p l e s m args below meth c α cA D H locs ls C hP hS hl) (fun z => kf z p l e s m args below meth c α cA D H locs ls C hP hS hl)

theorem go_icmp_ltN {d : Nat} {own : String} {cc : ByteArray} {nL : Nat} {ret : Option FieldType} {pc q : Nat} {lo : List (Option Value)} {st : List Value} {h : AH} {Q : Option Value → AH → Prop} {x y : Nat} {off : Int} {tgt : Nat} (hd : decode cc pc = .ok (.if_icmp .lt off, 3)) (ht : (pc : Int) + off = (tgt : Int)) (hq : pc + 3 = q) (hx : x < 2 ^ 31) (hy : y < 2 ^ 31) (kt : x < y → Go d own cc nL ret tgt lo st h Q) (kf : ¬ (x < y) → Go d own cc nL ret q lo st h Q) : Go d own cc nL ret pc lo (.int (nI y) :: .int (nI x) :: st) h Q := go_icmp_lt hd ht hq (fun z => kt ((nI_ltI hx hy).mp z)) (fun z => kf (fun w => z ((nI_ltI hx hy).mpr w)))

theorem go_if_lt {d : Nat} {own : String} {cc : ByteArray} {nL : Nat} {ret : Option FieldType} {pc q : Nat} {lo : List (Option Value)} {st : List Value} {h : AH} {Q : Option Value → AH → Prop} {x : Int32} {off : Int} {tgt : Nat} (hd : decode cc pc = .ok (.ifCond .lt off, 3)) (ht : (pc : Int) + off = (tgt : Int)) (hq : pc + 3 = q) (kt : x < 0 → Go d own cc nL ret tgt lo st h Q) (kf : ¬ x < 0 → Go d own cc nL ret q lo st h Q) : Go d own cc nL ret pc lo (.int x :: st) h Q := by
  subst hq
  intro p l e s m args below meth c α cA D H locs ls C hP hS hl
  exact lv_if_lt C.1 C.2.1 hd ht (fun z => kt z p l e s m args below meth c α cA D H locs ls C hP hS hl) (fun z => kf z p l e s m args below meth c α cA D H locs ls C hP hS hl)

theorem go_if_ltN {d : Nat} {own : String} {cc : ByteArray} {nL : Nat} {ret : Option FieldType} {pc q : Nat} {lo : List (Option Value)} {st : List Value} {h : AH} {Q : Option Value → AH → Prop} {x : Nat} {off : Int} {tgt : Nat} (hd : decode cc pc = .ok (.ifCond .lt off, 3)) (ht : (pc : Int) + off = (tgt : Int)) (hq : pc + 3 = q) (hx : x < 2 ^ 31) (kt : False → Go d own cc nL ret tgt lo st h Q) (kf : ¬ (False) → Go d own cc nL ret q lo st h Q) : Go d own cc nL ret pc lo (.int (nI x) :: st) h Q := go_if_lt hd ht hq (fun z => kt ((show nI x < 0 ↔ False from ⟨fun z => nI_pos hx z, False.elim⟩).mp z)) (fun z => kf (fun w => z ((show nI x < 0 ↔ False from ⟨fun z => nI_pos hx z, False.elim⟩).mpr w)))

theorem go_icmp_ge {d : Nat} {own : String} {cc : ByteArray} {nL : Nat} {ret : Option FieldType} {pc q : Nat} {lo : List (Option Value)} {st : List Value} {h : AH} {Q : Option Value → AH → Prop} {x y : Int32} {off : Int} {tgt : Nat} (hd : decode cc pc = .ok (.if_icmp .ge off, 3)) (ht : (pc : Int) + off = (tgt : Int)) (hq : pc + 3 = q) (kt : y ≤ x → Go d own cc nL ret tgt lo st h Q) (kf : ¬ y ≤ x → Go d own cc nL ret q lo st h Q) : Go d own cc nL ret pc lo (.int y :: .int x :: st) h Q := by
  subst hq
  intro p l e s m args below meth c α cA D H locs ls C hP hS hl
  exact lv_icmp_ge C.1 C.2.1 hd ht (fun z => kt z p l e s m args below meth c α cA D H locs ls C hP hS hl) (fun z => kf z p l e s m args below meth c α cA D H locs ls C hP hS hl)

theorem go_icmp_geN {d : Nat} {own : String} {cc : ByteArray} {nL : Nat} {ret : Option FieldType} {pc q : Nat} {lo : List (Option Value)} {st : List Value} {h : AH} {Q : Option Value → AH → Prop} {x y : Nat} {off : Int} {tgt : Nat} (hd : decode cc pc = .ok (.if_icmp .ge off, 3)) (ht : (pc : Int) + off = (tgt : Int)) (hq : pc + 3 = q) (hx : x < 2 ^ 31) (hy : y < 2 ^ 31) (kt : y ≤ x → Go d own cc nL ret tgt lo st h Q) (kf : ¬ (y ≤ x) → Go d own cc nL ret q lo st h Q) : Go d own cc nL ret pc lo (.int (nI y) :: .int (nI x) :: st) h Q := go_icmp_ge hd ht hq (fun z => kt ((nI_leI hy hx).mp z)) (fun z => kf (fun w => z ((nI_leI hy hx).mpr w)))

theorem go_if_ge {d : Nat} {own : String} {cc : ByteArray} {nL : Nat} {ret : Option FieldType} {pc q : Nat} {lo : List (Option Value)} {st : List Value} {h : AH} {Q : Option Value → AH → Prop} {x : Int32} {off : Int} {tgt : Nat} (hd : decode cc pc = .ok (.ifCond .ge off, 3)) (ht : (pc : Int) + off = (tgt : Int)) (hq : pc + 3 = q) (kt : 0 ≤ x → Go d own cc nL ret tgt lo st h Q) (kf : ¬ 0 ≤ x → Go d own cc nL ret q lo st h Q) : Go d own cc nL ret pc lo (.int x :: st) h Q := by
  subst hq
  intro p l e s m args below meth c α cA D H locs ls C hP hS hl
  exact lv_if_ge C.1 C.2.1 hd ht (fun z => kt z p l e s m args below meth c α cA D H locs ls C hP hS hl) (fun z => kf z p l e s m args below meth c α cA D H locs ls C hP hS hl)

theorem go_if_geN {d : Nat} {own : String} {cc : ByteArray} {nL : Nat} {ret : Option FieldType} {pc q : Nat} {lo : List (Option Value)} {st : List Value} {h : AH} {Q : Option Value → AH → Prop} {x : Nat} {off : Int} {tgt : Nat} (hd : decode cc pc = .ok (.ifCond .ge off, 3)) (ht : (pc : Int) + off = (tgt : Int)) (hq : pc + 3 = q) (hx : x < 2 ^ 31) (kt : True → Go d own cc nL ret tgt lo st h Q) (kf : ¬ (True) → Go d own cc nL ret q lo st h Q) : Go d own cc nL ret pc lo (.int (nI x) :: st) h Q := go_if_ge hd ht hq (fun z => kt ((show 0 ≤ nI x ↔ True from ⟨fun _ => trivial, fun _ => nI_pos' hx⟩).mp z)) (fun z => kf (fun w => z ((show 0 ≤ nI x ↔ True from ⟨fun _ => trivial, fun _ => nI_pos' hx⟩).mpr w)))

theorem go_icmp_gt {d : Nat} {own : String} {cc : ByteArray} {nL : Nat} {ret : Option FieldType} {pc q : Nat} {lo : List (Option Value)} {st : List Value} {h : AH} {Q : Option Value → AH → Prop} {x y : Int32} {off : Int} {tgt : Nat} (hd : decode cc pc = .ok (.if_icmp .gt off, 3)) (ht : (pc : Int) + off = (tgt : Int)) (hq : pc + 3 = q) (kt : y < x → Go d own cc nL ret tgt lo st h Q) (kf : ¬ y < x → Go d own cc nL ret q lo st h Q) : Go d own cc nL ret pc lo (.int y :: .int x :: st) h Q := by
  subst hq
  intro p l e s m args below meth c α cA D H locs ls C hP hS hl
  exact lv_icmp_gt C.1 C.2.1 hd ht (fun z => kt z p l e s m args below meth c α cA D H locs ls C hP hS hl) (fun z => kf z p l e s m args below meth c α cA D H locs ls C hP hS hl)

theorem go_icmp_gtN {d : Nat} {own : String} {cc : ByteArray} {nL : Nat} {ret : Option FieldType} {pc q : Nat} {lo : List (Option Value)} {st : List Value} {h : AH} {Q : Option Value → AH → Prop} {x y : Nat} {off : Int} {tgt : Nat} (hd : decode cc pc = .ok (.if_icmp .gt off, 3)) (ht : (pc : Int) + off = (tgt : Int)) (hq : pc + 3 = q) (hx : x < 2 ^ 31) (hy : y < 2 ^ 31) (kt : y < x → Go d own cc nL ret tgt lo st h Q) (kf : ¬ (y < x) → Go d own cc nL ret q lo st h Q) : Go d own cc nL ret pc lo (.int (nI y) :: .int (nI x) :: st) h Q := go_icmp_gt hd ht hq (fun z => kt ((nI_ltI hy hx).mp z)) (fun z => kf (fun w => z ((nI_ltI hy hx).mpr w)))

theorem go_if_gt {d : Nat} {own : String} {cc : ByteArray} {nL : Nat} {ret : Option FieldType} {pc q : Nat} {lo : List (Option Value)} {st : List Value} {h : AH} {Q : Option Value → AH → Prop} {x : Int32} {off : Int} {tgt : Nat} (hd : decode cc pc = .ok (.ifCond .gt off, 3)) (ht : (pc : Int) + off = (tgt : Int)) (hq : pc + 3 = q) (kt : 0 < x → Go d own cc nL ret tgt lo st h Q) (kf : ¬ 0 < x → Go d own cc nL ret q lo st h Q) : Go d own cc nL ret pc lo (.int x :: st) h Q := by
  subst hq
  intro p l e s m args below meth c α cA D H locs ls C hP hS hl
  exact lv_if_gt C.1 C.2.1 hd ht (fun z => kt z p l e s m args below meth c α cA D H locs ls C hP hS hl) (fun z => kf z p l e s m args below meth c α cA D H locs ls C hP hS hl)

theorem go_if_gtN {d : Nat} {own : String} {cc : ByteArray} {nL : Nat} {ret : Option FieldType} {pc q : Nat} {lo : List (Option Value)} {st : List Value} {h : AH} {Q : Option Value → AH → Prop} {x : Nat} {off : Int} {tgt : Nat} (hd : decode cc pc = .ok (.ifCond .gt off, 3)) (ht : (pc : Int) + off = (tgt : Int)) (hq : pc + 3 = q) (hx : x < 2 ^ 31) (kt : 0 < x → Go d own cc nL ret tgt lo st h Q) (kf : ¬ (0 < x) → Go d own cc nL ret q lo st h Q) : Go d own cc nL ret pc lo (.int (nI x) :: st) h Q := go_if_gt hd ht hq (fun z => kt ((show 0 < nI x ↔ 0 < x from nI_ltI (a := 0) (b := x) (by decide) hx).mp z)) (fun z => kf (fun w => z ((show 0 < nI x ↔ 0 < x from nI_ltI (a := 0) (b := x) (by decide) hx).mpr w)))

theorem go_icmp_le {d : Nat} {own : String} {cc : ByteArray} {nL : Nat} {ret : Option FieldType} {pc q : Nat} {lo : List (Option Value)} {st : List Value} {h : AH} {Q : Option Value → AH → Prop} {x y : Int32} {off : Int} {tgt : Nat} (hd : decode cc pc = .ok (.if_icmp .le off, 3)) (ht : (pc : Int) + off = (tgt : Int)) (hq : pc + 3 = q) (kt : x ≤ y → Go d own cc nL ret tgt lo st h Q) (kf : ¬ x ≤ y → Go d own cc nL ret q lo st h Q) : Go d own cc nL ret pc lo (.int y :: .int x :: st) h Q := by
  subst hq
  intro p l e s m args below meth c α cA D H locs ls C hP hS hl
  exact lv_icmp_le C.1 C.2.1 hd ht (fun z => kt z p l e s m args below meth c α cA D H locs ls C hP hS hl) (fun z => kf z p l e s m args below meth c α cA D H locs ls C hP hS hl)

theorem go_icmp_leN {d : Nat} {own : String} {cc : ByteArray} {nL : Nat} {ret : Option FieldType} {pc q : Nat} {lo : List (Option Value)} {st : List Value} {h : AH} {Q : Option Value → AH → Prop} {x y : Nat} {off : Int} {tgt : Nat} (hd : decode cc pc = .ok (.if_icmp .le off, 3)) (ht : (pc : Int) + off = (tgt : Int)) (hq : pc + 3 = q) (hx : x < 2 ^ 31) (hy : y < 2 ^ 31) (kt : x ≤ y → Go d own cc nL ret tgt lo st h Q) (kf : ¬ (x ≤ y) → Go d own cc nL ret q lo st h Q) : Go d own cc nL ret pc lo (.int (nI y) :: .int (nI x) :: st) h Q := go_icmp_le hd ht hq (fun z => kt ((nI_leI hx hy).mp z)) (fun z => kf (fun w => z ((nI_leI hx hy).mpr w)))

theorem go_if_le {d : Nat} {own : String} {cc : ByteArray} {nL : Nat} {ret : Option FieldType} {pc q : Nat} {lo : List (Option Value)} {st : List Value} {h : AH} {Q : Option Value → AH → Prop} {x : Int32} {off : Int} {tgt : Nat} (hd : decode cc pc = .ok (.ifCond .le off, 3)) (ht : (pc : Int) + off = (tgt : Int)) (hq : pc + 3 = q) (kt : x ≤ 0 → Go d own cc nL ret tgt lo st h Q) (kf : ¬ x ≤ 0 → Go d own cc nL ret q lo st h Q) : Go d own cc nL ret pc lo (.int x :: st) h Q := by
  subst hq
  intro p l e s m args below meth c α cA D H locs ls C hP hS hl
  exact lv_if_le C.1 C.2.1 hd ht (fun z => kt z p l e s m args below meth c α cA D H locs ls C hP hS hl) (fun z => kf z p l e s m args below meth c α cA D H locs ls C hP hS hl)

theorem go_if_leN {d : Nat} {own : String} {cc : ByteArray} {nL : Nat} {ret : Option FieldType} {pc q : Nat} {lo : List (Option Value)} {st : List Value} {h : AH} {Q : Option Value → AH → Prop} {x : Nat} {off : Int} {tgt : Nat} (hd : decode cc pc = .ok (.ifCond .le off, 3)) (ht : (pc : Int) + off = (tgt : Int)) (hq : pc + 3 = q) (hx : x < 2 ^ 31) (kt : x = 0 → Go d own cc nL ret tgt lo st h Q) (kf : ¬ (x = 0) → Go d own cc nL ret q lo st h Q) : Go d own cc nL ret pc lo (.int (nI x) :: st) h Q := go_if_le hd ht hq (fun z => kt ((show nI x ≤ 0 ↔ x = 0 from (nI_leI (a := x) (b := 0) hx (by decide)).trans ⟨fun z => by omega, fun z => by omega⟩).mp z)) (fun z => kf (fun w => z ((show nI x ≤ 0 ↔ x = 0 from (nI_leI (a := x) (b := 0) hx (by decide)).trans ⟨fun z => by omega, fun z => by omega⟩).mpr w)))

def bI (P : Prop) [Decidable P] : Int32 := if P then 1 else 0

theorem bI_t {P : Prop} [Decidable P] (h : P) : bI P = 1 := if_pos h
theorem bI_f {P : Prop} [Decidable P] (h : ¬ P) : bI P = 0 := if_neg h

theorem go_ifeqB {d : Nat} {own : String} {cc : ByteArray} {nL : Nat} {ret : Option FieldType} {pc q : Nat} {lo : List (Option Value)} {st : List Value} {h : AH} {Q : Option Value → AH → Prop} {P : Prop} [Decidable P] {off : Int} {tgt : Nat} (hd : decode cc pc = .ok (.ifCond .eq off, 3)) (ht : (pc : Int) + off = (tgt : Int)) (hq : pc + 3 = q) (kt : ¬ P → Go d own cc nL ret tgt lo st h Q) (kf : P → Go d own cc nL ret q lo st h Q) : Go d own cc nL ret pc lo (.int (bI P) :: st) h Q := go_if_eq hd ht hq (fun z => kt (fun w => by rw [bI_t w] at z; exact absurd z (by decide))) (fun z => kf (Decidable.byContradiction fun w => z (bI_f w)))

theorem go_ifneB {d : Nat} {own : String} {cc : ByteArray} {nL : Nat} {ret : Option FieldType} {pc q : Nat} {lo : List (Option Value)} {st : List Value} {h : AH} {Q : Option Value → AH → Prop} {P : Prop} [Decidable P] {off : Int} {tgt : Nat} (hd : decode cc pc = .ok (.ifCond .ne off, 3)) (ht : (pc : Int) + off = (tgt : Int)) (hq : pc + 3 = q) (kt : P → Go d own cc nL ret tgt lo st h Q) (kf : ¬ P → Go d own cc nL ret q lo st h Q) : Go d own cc nL ret pc lo (.int (bI P) :: st) h Q := go_if_ne hd ht hq (fun z => kt (Decidable.byContradiction fun w => z (bI_f w))) (fun z => kf (fun w => by rw [bI_t w] at z; exact absurd z (by decide)))

theorem go_goto {d : Nat} {own : String} {cc : ByteArray} {nL : Nat} {ret : Option FieldType} {pc : Nat} {lo : List (Option Value)} {st : List Value} {h : AH} {Q : Option Value → AH → Prop} {off : Int} {tgt : Nat} (hd : decode cc pc = .ok (.goto off, 3)) (ht : (pc : Int) + off = (tgt : Int)) (k : Go d own cc nL ret tgt lo st h Q) : Go d own cc nL ret pc lo st h Q := by
  intro p l e s m args below meth c α cA D H locs ls C hP hS hl
  exact lv_goto C.1 C.2.1 hd ht (k p l e s m args below meth c α cA D H locs ls C hP hS hl)

theorem go_tableOut {d : Nat} {own : String} {cc : ByteArray} {nL : Nat} {ret : Option FieldType} {pc : Nat} {lo : List (Option Value)} {st : List Value} {h : AH} {Q : Option Value → AH → Prop} {dflt lo1 hi1 : Int} {offs : Array Int} {len : Nat} {x : Int32} {tgt : Nat} (hd : decode cc pc = .ok (.tableswitch dflt lo1 hi1 offs, len)) (hz : x.toInt < lo1 ∨ hi1 < x.toInt) (ht : (pc : Int) + dflt = (tgt : Int)) (k : Go d own cc nL ret tgt lo st h Q) : Go d own cc nL ret pc lo (.int x :: st) h Q := by
  intro p l e s m args below meth c α cA D H locs ls C hP hS hl
  exact lv_tableOut C.1 C.2.1 hd hz ht (k p l e s m args below meth c α cA D H locs ls C hP hS hl)

theorem go_tableIn {d : Nat} {own : String} {cc : ByteArray} {nL : Nat} {ret : Option FieldType} {pc : Nat} {lo : List (Option Value)} {st : List Value} {h : AH} {Q : Option Value → AH → Prop} {dflt lo1 hi1 : Int} {offs : Array Int} {len : Nat} {x : Int32} {off : Int} {tgt : Nat} (hd : decode cc pc = .ok (.tableswitch dflt lo1 hi1 offs, len)) (h1 : ¬ x.toInt < lo1) (h2 : ¬ hi1 < x.toInt) (ho : offs[(x.toInt - lo1).toNat]? = some off) (ht : (pc : Int) + off = (tgt : Int)) (k : Go d own cc nL ret tgt lo st h Q) : Go d own cc nL ret pc lo (.int x :: st) h Q := by
  intro p l e s m args below meth c α cA D H locs ls C hP hS hl
  exact lv_tableIn C.1 C.2.1 hd h1 h2 ho ht (k p l e s m args below meth c α cA D H locs ls C hP hS hl)

theorem go_lookup {d : Nat} {own : String} {cc : ByteArray} {nL : Nat} {ret : Option FieldType} {pc : Nat} {lo : List (Option Value)} {st : List Value} {h : AH} {Q : Option Value → AH → Prop} {dflt : Int} {ps : Array (Int × Int)} {len : Nat} {x : Int32} {off : Int} {tgt : Nat} (hd : decode cc pc = .ok (.lookupswitch dflt ps, len)) (hp : (ps.toList.zip (ps.toList.drop 1)).all (fun (a, next) => a.1 < next.1) = true) (ho : Op.lookupswitch.offset ps.toList dflt x.toInt = off) (ht : (pc : Int) + off = (tgt : Int)) (k : Go d own cc nL ret tgt lo st h Q) : Go d own cc nL ret pc lo (.int x :: st) h Q := by
  intro p l e s m args below meth c α cA D H locs ls C hP hS hl
  exact lv_lookup C.1 C.2.1 hd hp ho ht (k p l e s m args below meth c α cA D H locs ls C hP hS hl)
