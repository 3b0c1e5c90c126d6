section MO
variable {d : Nat} {own : String} {cc : ByteArray} {nL : Nat} {ret : Option FieldType} {pc : Nat} {lo : List (Option Value)} {h : AH} {Q : Option Value → AH → Prop}
theorem go_iretE {x y : Int32} (hd : decode cc pc = .ok (.ireturn, 1)) (hr : ret = some .int) (he : y = x) (kk : Q (some (.int y)) h) : Go d own cc nL ret pc lo [.int x] h Q := by subst he; exact go_iret hd hr kk
theorem go_iretN {x y : Nat} (hd : decode cc pc = .ok (.ireturn, 1)) (hr : ret = some .int) (he : y = x) (kk : Q (some (.int (nI y))) h) : Go d own cc nL ret pc lo [.int (nI x)] h Q := by subst he; exact go_iret hd hr kk
theorem go_st {st st' : List Value} (he : st = st') (kk : Go d own cc nL ret pc lo st' h Q) : Go d own cc nL ret pc lo st h Q := by subst he; exact kk
end MO
theorem metF {l : Launch} {y : MethodName} {ws ws' : List Cond} {rm : Room} {Pc : Array Value → State → Prop} {Qc : Array Value → State → Outcome → State → Prop} {mc ms : Nat} {free : Addr → Prop} {cc : ByteArray} {maxL : Nat} {ret : Option FieldType}
    (hy : plainFor y = true) (hw : ws = Cond.code y cc maxL ret :: ws')
    (body : ∀ p e s m args below meth c s₁, BodyLoose p l y (headSpec ws rm) cc maxL ret e s m args below meth c s₁ → c.maxLocals = maxL → Pc args s →
      W p l e (headSpec ws rm).room s m args below meth c s.heap [] 0 0 (MQ below Qc args s mc ms free) (entryFrame m args maxL)) : Met l y ws rm Pc Qc mc ms free := by
  refine MetFree.of_bodySF (code := cc) (maxLocals := maxL) (ret := ret) hy ?_ ?_
  · intro args s m h hn
    obtain ⟨meth, c, h1, h2, h3, h4, h5, h6, -, -⟩ := Cond.code_spec hn (atoms_spec (ws := ws) h _ (by rw [hw]; exact List.mem_cons_self))
    exact ⟨meth, c, h1, h2, h3, h4, h5, h6⟩
  · intro p e s m args below meth c s₁ B hml hP _
    have hh0 : s₁.heap = s.heap := by rw [B.state]; rfl
    obtain ⟨t, a1, o, b1, b2, b3⟩ := body p e s m args below meth c s₁ B hml hP s₁ hh0 (Stand.of_body B)
    exact ⟨t, o, a1, b1, b2, ⟨b3.1, b3.2⟩⟩
set_option maxHeartbeats 1000000 in
theorem cn_ofF {d : Nat} {y : MethodName} {own : String} {cc : ByteArray} {nL : Nat} {ret : Option FieldType} {av : List Value} {h : AH} {Q : Option Value → AH → Prop} {lo : List (Option Value)} (k : Nat) (hlo : loA av ++ List.replicate k none = lo) (hy : plainFor y = true) (ho : y.cls = own) (hk : slN av ≤ nL)
    (G : Go d own cc nL ret 0 lo [] h Q) : Cn d y cc nL ret av h Q := by
  subst ho
  intro l α cA D hj
  refine metF (cc := cc) (maxL := nL) (ret := ret) hy rfl ?_
  intro p e s m args below meth c s₁ B hml hv
  obtain ⟨rfl, hP, hK, hS⟩ := hv
  have hts := atoms_spec (ws := Cond.code y cc nL ret :: tW) B.pre
  have hown : s.vm.findClass y.cls = some m.cls := findClass_of_methodNamed B.named
  have hen := lv_entry (av.map (cV α)) (n := nL) (by rw [slN_len, slN_map]; exact hk)
  rw [lg_entry_eq]
  generalize (lg_sl (av.map (cV α)) ++ List.replicate (nL - (lg_sl (av.map (cV α))).length) Slot.unset).toArray = ls at hen ⊢
  refine G p l e s m _ below meth c α cA D s.heap [] ls ⟨B.exec, B.bytes, hml, B.returns, hown, fun w hw => hts w (List.mem_cons_of_mem _ hw), B.notSynchronized, hK, hj, hS⟩ hP va_S.rf ⟨hen.1, hen.2.1, fun i v hi => ?_⟩
  refine hen.2.2 (i, cV α v) ?_
  rw [← hlo] at hi
  have hi2 : (loA av)[i]? = some (some v) := by
    rw [List.getElem?_append] at hi
    split at hi
    · exact hi
    · rw [List.getElem?_replicate] at hi
      split at hi <;> cases hi
  have := loA_args α av 0 i v hi2
  rwa [Nat.zero_add] at this
