set_option maxHeartbeats 1000000 in
theorem go_acopyL {d : Nat} {own : String} {cc : ByteArray} {nL : Nat} {ret : Option FieldType} {pc q : Nat} {lo : List (Option Value)} {st : List Value} {h : AH} {Q : Option Value → AH → Prop} {ix a b n n0 n1 sp dp : Nat} {f g : Nat → Int64}
    (hd : decode cc pc = .ok (.invokestatic ix, 3)) (hlk : Cond.methodLink own ix arraycopyName ∈ tW) (ha : a < nC) (hb : b < nC) (hca : h a = .inl (1, n0, .inr (.inl f))) (hcb : h b = .inl (1, n1, .inr (.inl g))) (h0 : sp + n ≤ n0) (h1 : dp + n ≤ n1) (hn0 : n0 < 2 ^ 31) (hn1 : n1 < 2 ^ 31) (hd1 : 1 ≤ d) (hst : (st.map fun v => v.category).sum ≤ 8) (hq : pc + 3 = q)
    (kk : Go d own cc nL ret q lo st (hset h b (.inl (1, n1, .inr (.inl (va_cpy f g sp dp n))))) Q) : Go d own cc nL ret pc lo (.int (nI n) :: .int (nI dp) :: .ref b :: .int (nI sp) :: .ref a :: st) h Q := by
  subst hq
  intro p l e s m args below meth c α cA D H locs ls C0 hP hS hl
  have ha2 := cW_at (α := α) (cA := cA) (h := h) ha
  have hb2 := cW_at (α := α) (cA := cA) (h := h) hb
  rw [hca] at ha2
  rw [hcb] at hb2
  have hts := C0.2.2.2.2.2.1
  refine va_copyl C0.1 C0.2.1 (by rw [C0.2.2.1, hl.1]) C0.2.2.2.2.1 (hts _ hlk) (hts _ nat_ac) (hts _ sta_ac) (hts _ ini_J10) C0.2.2.2.2.2.2.2.1 hP (cW_D C0.2.2.2.2.2.2.2.2.1) hS a b 1 1 (c0 := cA 1) (c1 := cA 1) (n0 := n0) (n1 := n1) (f := f) (g := g) (ty := .long) ha2 hb2 rfl rfl rfl (sp := nI sp) (dp := nI dp) (n := nI n) (nI_pos (by omega)) (nI_pos (by omega)) (nI_pos (by omega)) (by rw [nI_clamp (by omega), nI_clamp (by omega)]; omega) (by rw [nI_clamp (by omega), nI_clamp (by omega)]; omega) (fun i _ => rfl) hd1 ?_ hd (fun H1 locs1 hP1 hD1 hS1 => ?_)
  · rw [map_cat]
    have : nativeFrameWords "java/lang/System" "arraycopy" 5 + 11 ≤ 56 := by decide +kernel
    show _ ≤ 64 * d
    omega
  · rw [nI_clamp (by omega), nI_clamp (by omega), nI_clamp (by omega)] at hP1
    have e1 : (cW α cA h).set b (α b, .inl (cA 1, n1, .inr (.inl (va_cpy f g sp dp n)))) = cW α cA (hset h b (.inl (1, n1, .inr (.inl (va_cpy f g sp dp n))))) := by
      rw [← cW_set hb]
      rfl
    rw [e1] at hP1
    exact kk p l e s m args below meth c α cA D H1 locs1 ls C0 hP1 hS1 hl
def cpN (N : Nat → Nat → Int64) (s t sp dp n : Nat) : Nat → Nat → Int64 := fun a i => if a = t then va_cpy (N s) (N t) sp dp n i else N a i
theorem hp_sr_all {S : St} {N : Nat → Nat → Int64} {X : St} {Y : Nat → Int64} {t : Nat} {f : Nat → Int64} (ht : t < 4) : hset (hp S N X Y) (sr t) (.inl (1, 40, .inr (.inl f))) = hp S (fun a i => if a = t then f i else N a i) X Y := by
  refine hp_at_set ?_ (fun q hq => ?_)
  · rw [hp_sr ht]
    congr 5
    funext c
    simp
  · unfold hp
    by_cases h3 : 59 < q ∧ q < 68 ∧ ¬ q % 2 = 0
    · have hne : ¬ (q - 60) / 2 = t := fun e => hq (by unfold sr; omega)
      simp only [if_neg hne]
    · by_cases h4 : q < 68
      · by_cases h5 : q % 2 = 0
        · rw [if_pos h5, if_pos h5]
        · have : q ≤ 59 := by omega
          by_cases h6 : q < 57
          · rw [if_pos h6, if_pos h6]
          · rw [if_neg h6, if_neg h6]
            by_cases h7 : q = 57
            · rw [if_pos h7, if_pos h7]
            · rw [if_neg h7, if_neg h7, if_pos (show q = 59 by omega), if_pos (show q = 59 by omega)]
      · rw [if_neg h4, if_neg h4]
theorem go_scopy {d : Nat} {own : String} {cc : ByteArray} {nL : Nat} {ret : Option FieldType} {pc q : Nat} {lo : List (Option Value)} {st : List Value} {Q : Option Value → AH → Prop} {S : St} {N : Nat → Nat → Int64} {X : St} {Y : Nat → Int64} {ix s t n sp dp : Nat}
    (hd : decode cc pc = .ok (.invokestatic ix, 3)) (hlk : Cond.methodLink own ix arraycopyName ∈ tW) (hs : s < 4) (ht : t < 4) (h0 : sp + n ≤ 40) (h1 : dp + n ≤ 40) (hd1 : 1 ≤ d) (hst : (st.map fun v => v.category).sum ≤ 8) (hq : pc + 3 = q)
    (kk : Go d own cc nL ret q lo st (hp S (cpN N s t sp dp n) X Y) Q) : Go d own cc nL ret pc lo (.int (nI n) :: .int (nI dp) :: .ref (sr t) :: .int (nI sp) :: .ref (sr s) :: st) (hp S N X Y) Q :=
  go_acopyL hd hlk (sr_lt hs) (sr_lt ht) (hp_sr hs) (hp_sr ht) h0 h1 (by decide) (by decide) hd1 hst hq (by rw [hp_sr_all ht]; exact kk)
