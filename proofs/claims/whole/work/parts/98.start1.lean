/-! the tables and the strings at the law's entry -/
theorem lw_prim {U : State} {args : Array Value} {ty : FieldType} (h : (Cond.arrayClass ty).before args U = true) (hp : ∀ c, U.vm.findClass ("[" ++ ty.toString) = some c → va_RA U c ty) : ∃ c, ArrOfT U c ty ∧ va_RA U c ty := by
  obtain ⟨c, k, comp, h1, h2, h3⟩ := Cond.arrayClass_spec h
  exact ⟨c, fun n z => ⟨fun j w => (by cases w), k, h2, comp, h3⟩, hp c h1⟩
theorem lw_objA {U : State} {args : Array Value} {n : String} (h : (Cond.arrayOver (.object n)).before args U = true) : ∃ c, ArrOfT U c (.object n) ∧ va_RA U c (.object n) := by
  obtain ⟨comp, c, k, f4, -, f2, f3, f1⟩ := Cond.arrayOver_spec h
  exact ⟨c, fun N z => ⟨(fun j w => by cases w), k, f2, comp, f3⟩, k, comp, f2, f3, f4, f1⟩
theorem lw_K {s : State} {args : Array Value} (ht : ∀ w ∈ tW, w.before args s = true) (hts : ∀ w ∈ lw_tbl, w.before args s = true) : ∃ (D : va_G) (cA : Nat → ClassId), va_K D vwCl (tyC cA) s := by
  obtain ⟨c0, i0, k0⟩ := u_known (C := RX0) (T := TX0) (N := 17) (n := 17) ht inW_X0 (ht _ it_X0)
  obtain ⟨c1, i1, k1⟩ := u_known (C := RX1) (T := TX1) (N := 3) (n := 3) ht inW_X1 (ht _ it_X1)
  obtain ⟨c2, i2, k2⟩ := u_known (C := RX2) (T := TX2) (N := 6) (n := 6) ht inW_X2 (ht _ it_X2)
  obtain ⟨c3, i3, k3⟩ := u_known (C := RX3) (T := TX3) (N := 8) (n := 8) ht inW_X3 (ht _ it_X3)
  obtain ⟨c4, i4, k4⟩ := u_known (C := RX4) (T := TX4) (N := 16) (n := 16) ht inW_X4 (ht _ it_X4)
  obtain ⟨a0, g0, r0⟩ := lw_prim (ht _ ac_int) (fun c h => h)
  obtain ⟨a1, g1, r1⟩ := lw_prim (ht _ ac_long) (fun c h => h)
  obtain ⟨a2, g2, r2⟩ := lw_prim (ht _ ac_bool) (fun c h => h)
  obtain ⟨a3, g3, r3⟩ := lw_objA (n := "SproutCoins$Sheet") (hts (.arrayOver (.object "SproutCoins$Sheet")) (List.mem_of_getElem? (i := 193) (by decide +kernel)))
  refine ⟨(fun k => match k with | 0 => c0 | 1 => c1 | 2 => c2 | 3 => c3 | _ => c4, fun k => match k with | 0 => i0 | 1 => i1 | 2 => i2 | 3 => i3 | _ => i4), fun k => match k with | 0 => a0 | 1 => a1 | 2 => a2 | _ => a3, fun c q hq => ?_, fun k q hk => ?_⟩
  · match c, hq with
    | 0, hq => cases hq; exact k0
    | 1, hq => cases hq; exact k1
    | 2, hq => cases hq; exact k2
    | 3, hq => cases hq; exact k3
    | 4, hq => cases hq; exact k4
    | c + 5, hq => simp [vwCl] at hq
  · match k, hk with
    | 0, hk => cases hk; exact ⟨g0, r0⟩
    | 1, hk => cases hk; exact ⟨g1, r1⟩
    | 2, hk => cases hk; exact ⟨g2, r2⟩
    | 3, hk => cases hk; exact ⟨g3, r3⟩
    | k + 4, hk => simp [tyC] at hk
theorem lw_NB {s : State} {args : Array Value} (hts : ∀ w ∈ lw_tbl, w.before args s = true) : NB s :=
  ⟨va_AO.of (hts (.arrayOver (.object "SproutCoins$Sheet")) (List.mem_of_getElem? (i := 193) (by decide +kernel))), va_Nw.of rfl (hts (.methodLinkNest RX3 27 yX2_init RX3) (List.mem_of_getElem? (i := 168) (by decide +kernel))), va_Nw.of rfl (hts (.methodLinkNest RX3 38 yX1_init RX3) (List.mem_of_getElem? (i := 195) (by decide +kernel)))⟩

abbrev wN : List Cond := flatC (Jvm.Cond.and given_1 narrow_1)
def tmS (i : Nat) : Term := .string RX2 (strIx.getD i 0)
theorem sn_ex : ∀ i, i < 15 → Cond.exactly (tmS i) "java/lang/String" ∈ wN := by
  intro i hi
  match i, hi with
  | 0, _ => exact List.mem_of_getElem? (i := 9) (by decide +kernel)
  | 1, _ => exact List.mem_of_getElem? (i := 17) (by decide +kernel)
  | 2, _ => exact List.mem_of_getElem? (i := 25) (by decide +kernel)
  | 3, _ => exact List.mem_of_getElem? (i := 35) (by decide +kernel)
  | 4, _ => exact List.mem_of_getElem? (i := 48) (by decide +kernel)
  | 5, _ => exact List.mem_of_getElem? (i := 59) (by decide +kernel)
  | 6, _ => exact List.mem_of_getElem? (i := 72) (by decide +kernel)
  | 7, _ => exact List.mem_of_getElem? (i := 84) (by decide +kernel)
  | 8, _ => exact List.mem_of_getElem? (i := 99) (by decide +kernel)
  | 9, _ => exact List.mem_of_getElem? (i := 117) (by decide +kernel)
  | 10, _ => exact List.mem_of_getElem? (i := 137) (by decide +kernel)
  | 11, _ => exact List.mem_of_getElem? (i := 155) (by decide +kernel)
  | 12, _ => exact List.mem_of_getElem? (i := 175) (by decide +kernel)
  | 13, _ => exact List.mem_of_getElem? (i := 195) (by decide +kernel)
  | 14, _ => exact List.mem_of_getElem? (i := 214) (by decide +kernel)
  | j + 15, hj => exact absurd hj (by omega)
theorem sn_co : ∀ i, i < 15 → Cond.eq (.field (tmS i) "java/lang/String" "coder" "B") (.int 0) ∈ wN := by
  intro i hi
  match i, hi with
  | 0, _ => exact List.mem_of_getElem? (i := 10) (by decide +kernel)
  | 1, _ => exact List.mem_of_getElem? (i := 18) (by decide +kernel)
  | 2, _ => exact List.mem_of_getElem? (i := 26) (by decide +kernel)
  | 3, _ => exact List.mem_of_getElem? (i := 36) (by decide +kernel)
  | 4, _ => exact List.mem_of_getElem? (i := 49) (by decide +kernel)
  | 5, _ => exact List.mem_of_getElem? (i := 60) (by decide +kernel)
  | 6, _ => exact List.mem_of_getElem? (i := 73) (by decide +kernel)
  | 7, _ => exact List.mem_of_getElem? (i := 85) (by decide +kernel)
  | 8, _ => exact List.mem_of_getElem? (i := 100) (by decide +kernel)
  | 9, _ => exact List.mem_of_getElem? (i := 118) (by decide +kernel)
  | 10, _ => exact List.mem_of_getElem? (i := 138) (by decide +kernel)
  | 11, _ => exact List.mem_of_getElem? (i := 156) (by decide +kernel)
  | 12, _ => exact List.mem_of_getElem? (i := 176) (by decide +kernel)
  | 13, _ => exact List.mem_of_getElem? (i := 196) (by decide +kernel)
  | 14, _ => exact List.mem_of_getElem? (i := 215) (by decide +kernel)
  | j + 15, hj => exact absurd hj (by omega)
theorem sn_ar : ∀ i, i < 15 → Cond.arrayOf (.field (tmS i) "java/lang/String" "value" "[B") .byte ∈ wN := by
  intro i hi
  match i, hi with
  | 0, _ => exact List.mem_of_getElem? (i := 11) (by decide +kernel)
  | 1, _ => exact List.mem_of_getElem? (i := 19) (by decide +kernel)
  | 2, _ => exact List.mem_of_getElem? (i := 27) (by decide +kernel)
  | 3, _ => exact List.mem_of_getElem? (i := 37) (by decide +kernel)
  | 4, _ => exact List.mem_of_getElem? (i := 50) (by decide +kernel)
  | 5, _ => exact List.mem_of_getElem? (i := 61) (by decide +kernel)
  | 6, _ => exact List.mem_of_getElem? (i := 74) (by decide +kernel)
  | 7, _ => exact List.mem_of_getElem? (i := 86) (by decide +kernel)
  | 8, _ => exact List.mem_of_getElem? (i := 101) (by decide +kernel)
  | 9, _ => exact List.mem_of_getElem? (i := 119) (by decide +kernel)
  | 10, _ => exact List.mem_of_getElem? (i := 139) (by decide +kernel)
  | 11, _ => exact List.mem_of_getElem? (i := 157) (by decide +kernel)
  | 12, _ => exact List.mem_of_getElem? (i := 177) (by decide +kernel)
  | 13, _ => exact List.mem_of_getElem? (i := 197) (by decide +kernel)
  | 14, _ => exact List.mem_of_getElem? (i := 216) (by decide +kernel)
  | j + 15, hj => exact absurd hj (by omega)
theorem sn_le : ∀ i, i < 15 → Cond.eq (.length (.field (tmS i) "java/lang/String" "value" "[B")) (.int (Int32.ofNat (strLen.getD i 0))) ∈ wN := by
  intro i hi
  match i, hi with
  | 0, _ => exact List.mem_of_getElem? (i := 12) (by decide +kernel)
  | 1, _ => exact List.mem_of_getElem? (i := 20) (by decide +kernel)
  | 2, _ => exact List.mem_of_getElem? (i := 28) (by decide +kernel)
  | 3, _ => exact List.mem_of_getElem? (i := 38) (by decide +kernel)
  | 4, _ => exact List.mem_of_getElem? (i := 51) (by decide +kernel)
  | 5, _ => exact List.mem_of_getElem? (i := 62) (by decide +kernel)
  | 6, _ => exact List.mem_of_getElem? (i := 75) (by decide +kernel)
  | 7, _ => exact List.mem_of_getElem? (i := 87) (by decide +kernel)
  | 8, _ => exact List.mem_of_getElem? (i := 102) (by decide +kernel)
  | 9, _ => exact List.mem_of_getElem? (i := 120) (by decide +kernel)
  | 10, _ => exact List.mem_of_getElem? (i := 140) (by decide +kernel)
  | 11, _ => exact List.mem_of_getElem? (i := 158) (by decide +kernel)
  | 12, _ => exact List.mem_of_getElem? (i := 178) (by decide +kernel)
  | 13, _ => exact List.mem_of_getElem? (i := 198) (by decide +kernel)
  | 14, _ => exact List.mem_of_getElem? (i := 217) (by decide +kernel)
  | j + 15, hj => exact absurd hj (by omega)
theorem sn_el : ∀ i, i < 15 → ∀ j, j < strLen.getD i 0 → Cond.eq (.elem (.field (tmS i) "java/lang/String" "value" "[B") (.int (Int32.ofNat j))) (.int ((strByt.getD i []).getD j 0)) ∈ wN := by
  intro i hi j hj
  match i, hi, j, hj with
  | 0, _, j, hj =>
    match j, hj with
    | 0, _ => exact List.mem_of_getElem? (i := 13) (by decide +kernel)
    | 1, _ => exact List.mem_of_getElem? (i := 14) (by decide +kernel)
    | 2, _ => exact List.mem_of_getElem? (i := 15) (by decide +kernel)
    | 3, _ => exact List.mem_of_getElem? (i := 16) (by decide +kernel)
    | j + 4, hj => exact absurd hj (by show ¬ j + 4 < 4; omega)
  | 1, _, j, hj =>
    match j, hj with
    | 0, _ => exact List.mem_of_getElem? (i := 21) (by decide +kernel)
    | 1, _ => exact List.mem_of_getElem? (i := 22) (by decide +kernel)
    | 2, _ => exact List.mem_of_getElem? (i := 23) (by decide +kernel)
    | j + 3, hj => exact absurd hj (by show ¬ j + 3 < 3; omega)
  | 2, _, j, hj =>
    match j, hj with
    | 0, _ => exact List.mem_of_getElem? (i := 29) (by decide +kernel)
    | 1, _ => exact List.mem_of_getElem? (i := 30) (by decide +kernel)
    | 2, _ => exact List.mem_of_getElem? (i := 31) (by decide +kernel)
    | 3, _ => exact List.mem_of_getElem? (i := 32) (by decide +kernel)
    | j + 4, hj => exact absurd hj (by show ¬ j + 4 < 4; omega)
  | 3, _, j, hj =>
    match j, hj with
    | 0, _ => exact List.mem_of_getElem? (i := 39) (by decide +kernel)
    | 1, _ => exact List.mem_of_getElem? (i := 40) (by decide +kernel)
    | 2, _ => exact List.mem_of_getElem? (i := 41) (by decide +kernel)
    | 3, _ => exact List.mem_of_getElem? (i := 42) (by decide +kernel)
    | 4, _ => exact List.mem_of_getElem? (i := 43) (by decide +kernel)
    | 5, _ => exact List.mem_of_getElem? (i := 44) (by decide +kernel)
    | j + 6, hj => exact absurd hj (by show ¬ j + 6 < 6; omega)
  | 4, _, j, hj =>
    match j, hj with
    | 0, _ => exact List.mem_of_getElem? (i := 52) (by decide +kernel)
    | 1, _ => exact List.mem_of_getElem? (i := 53) (by decide +kernel)
    | 2, _ => exact List.mem_of_getElem? (i := 54) (by decide +kernel)
    | j + 3, hj => exact absurd hj (by show ¬ j + 3 < 3; omega)
  | 5, _, j, hj =>
    match j, hj with
    | 0, _ => exact List.mem_of_getElem? (i := 63) (by decide +kernel)
    | 1, _ => exact List.mem_of_getElem? (i := 64) (by decide +kernel)
    | 2, _ => exact List.mem_of_getElem? (i := 65) (by decide +kernel)
    | 3, _ => exact List.mem_of_getElem? (i := 66) (by decide +kernel)
    | j + 4, hj => exact absurd hj (by show ¬ j + 4 < 4; omega)
  | 6, _, j, hj =>
    match j, hj with
    | 0, _ => exact List.mem_of_getElem? (i := 76) (by decide +kernel)
    | 1, _ => exact List.mem_of_getElem? (i := 77) (by decide +kernel)
    | j + 2, hj => exact absurd hj (by show ¬ j + 2 < 2; omega)
  | 7, _, j, hj =>
    match j, hj with
    | 0, _ => exact List.mem_of_getElem? (i := 88) (by decide +kernel)
    | 1, _ => exact List.mem_of_getElem? (i := 89) (by decide +kernel)
    | 2, _ => exact List.mem_of_getElem? (i := 90) (by decide +kernel)
    | 3, _ => exact List.mem_of_getElem? (i := 91) (by decide +kernel)
    | j + 4, hj => exact absurd hj (by show ¬ j + 4 < 4; omega)
  | 8, _, j, hj =>
    match j, hj with
    | 0, _ => exact List.mem_of_getElem? (i := 103) (by decide +kernel)
    | 1, _ => exact List.mem_of_getElem? (i := 104) (by decide +kernel)
    | 2, _ => exact List.mem_of_getElem? (i := 105) (by decide +kernel)
    | 3, _ => exact List.mem_of_getElem? (i := 106) (by decide +kernel)
    | 4, _ => exact List.mem_of_getElem? (i := 107) (by decide +kernel)
    | 5, _ => exact List.mem_of_getElem? (i := 108) (by decide +kernel)
    | j + 6, hj => exact absurd hj (by show ¬ j + 6 < 6; omega)
  | 9, _, j, hj =>
    match j, hj with
    | 0, _ => exact List.mem_of_getElem? (i := 121) (by decide +kernel)
    | 1, _ => exact List.mem_of_getElem? (i := 122) (by decide +kernel)
    | 2, _ => exact List.mem_of_getElem? (i := 123) (by decide +kernel)
    | 3, _ => exact List.mem_of_getElem? (i := 124) (by decide +kernel)
    | 4, _ => exact List.mem_of_getElem? (i := 125) (by decide +kernel)
    | 5, _ => exact List.mem_of_getElem? (i := 126) (by decide +kernel)
    | 6, _ => exact List.mem_of_getElem? (i := 127) (by decide +kernel)
    | j + 7, hj => exact absurd hj (by show ¬ j + 7 < 7; omega)
  | 10, _, j, hj =>
    match j, hj with
    | 0, _ => exact List.mem_of_getElem? (i := 141) (by decide +kernel)
    | 1, _ => exact List.mem_of_getElem? (i := 142) (by decide +kernel)
    | 2, _ => exact List.mem_of_getElem? (i := 143) (by decide +kernel)
    | 3, _ => exact List.mem_of_getElem? (i := 144) (by decide +kernel)
    | j + 4, hj => exact absurd hj (by show ¬ j + 4 < 4; omega)
  | 11, _, j, hj =>
    match j, hj with
    | 0, _ => exact List.mem_of_getElem? (i := 159) (by decide +kernel)
    | 1, _ => exact List.mem_of_getElem? (i := 160) (by decide +kernel)
    | 2, _ => exact List.mem_of_getElem? (i := 161) (by decide +kernel)
    | 3, _ => exact List.mem_of_getElem? (i := 162) (by decide +kernel)
    | 4, _ => exact List.mem_of_getElem? (i := 163) (by decide +kernel)
    | j + 5, hj => exact absurd hj (by show ¬ j + 5 < 5; omega)
  | 12, _, j, hj =>
    match j, hj with
    | 0, _ => exact List.mem_of_getElem? (i := 179) (by decide +kernel)
    | 1, _ => exact List.mem_of_getElem? (i := 180) (by decide +kernel)
    | 2, _ => exact List.mem_of_getElem? (i := 181) (by decide +kernel)
    | 3, _ => exact List.mem_of_getElem? (i := 182) (by decide +kernel)
    | j + 4, hj => exact absurd hj (by show ¬ j + 4 < 4; omega)
  | 13, _, j, hj =>
    match j, hj with
    | 0, _ => exact List.mem_of_getElem? (i := 199) (by decide +kernel)
    | 1, _ => exact List.mem_of_getElem? (i := 200) (by decide +kernel)
    | j + 2, hj => exact absurd hj (by show ¬ j + 2 < 2; omega)
  | 14, _, j, hj =>
    match j, hj with
    | 0, _ => exact List.mem_of_getElem? (i := 218) (by decide +kernel)
    | 1, _ => exact List.mem_of_getElem? (i := 219) (by decide +kernel)
    | j + 2, hj => exact absurd hj (by show ¬ j + 2 < 2; omega)
  | i + 15, hi, _, _ => exact absurd hi (by omega)
theorem sn_n0 : ∀ j, j < 15 → 0 ≠ j → Cond.not (Cond.eq (tmS 0) (tmS j)) ∈ wN ∨ Cond.not (Cond.eq (tmS j) (tmS 0)) ∈ wN := by
    intro j hj hne
    match j, hj with
    | 0, _ => exact absurd rfl hne
    | 1, _ => exact Or.inl (List.mem_of_getElem? (i := 24) (by decide +kernel))
    | 2, _ => exact Or.inl (List.mem_of_getElem? (i := 33) (by decide +kernel))
    | 3, _ => exact Or.inl (List.mem_of_getElem? (i := 45) (by decide +kernel))
    | 4, _ => exact Or.inl (List.mem_of_getElem? (i := 55) (by decide +kernel))
    | 5, _ => exact Or.inl (List.mem_of_getElem? (i := 67) (by decide +kernel))
    | 6, _ => exact Or.inl (List.mem_of_getElem? (i := 78) (by decide +kernel))
    | 7, _ => exact Or.inl (List.mem_of_getElem? (i := 92) (by decide +kernel))
    | 8, _ => exact Or.inl (List.mem_of_getElem? (i := 109) (by decide +kernel))
    | 9, _ => exact Or.inl (List.mem_of_getElem? (i := 128) (by decide +kernel))
    | 10, _ => exact Or.inl (List.mem_of_getElem? (i := 145) (by decide +kernel))
    | 11, _ => exact Or.inl (List.mem_of_getElem? (i := 164) (by decide +kernel))
    | 12, _ => exact Or.inl (List.mem_of_getElem? (i := 183) (by decide +kernel))
    | 13, _ => exact Or.inl (List.mem_of_getElem? (i := 201) (by decide +kernel))
    | 14, _ => exact Or.inl (List.mem_of_getElem? (i := 220) (by decide +kernel))
    | j + 15, hj => exact absurd hj (by omega)
theorem sn_n1 : ∀ j, j < 15 → 1 ≠ j → Cond.not (Cond.eq (tmS 1) (tmS j)) ∈ wN ∨ Cond.not (Cond.eq (tmS j) (tmS 1)) ∈ wN := by
    intro j hj hne
    match j, hj with
    | 0, _ => exact Or.inr (List.mem_of_getElem? (i := 24) (by decide +kernel))
    | 1, _ => exact absurd rfl hne
    | 2, _ => exact Or.inl (List.mem_of_getElem? (i := 34) (by decide +kernel))
    | 3, _ => exact Or.inl (List.mem_of_getElem? (i := 46) (by decide +kernel))
    | 4, _ => exact Or.inl (List.mem_of_getElem? (i := 56) (by decide +kernel))
    | 5, _ => exact Or.inl (List.mem_of_getElem? (i := 68) (by decide +kernel))
    | 6, _ => exact Or.inl (List.mem_of_getElem? (i := 79) (by decide +kernel))
    | 7, _ => exact Or.inl (List.mem_of_getElem? (i := 93) (by decide +kernel))
    | 8, _ => exact Or.inl (List.mem_of_getElem? (i := 110) (by decide +kernel))
    | 9, _ => exact Or.inl (List.mem_of_getElem? (i := 129) (by decide +kernel))
    | 10, _ => exact Or.inl (List.mem_of_getElem? (i := 146) (by decide +kernel))
    | 11, _ => exact Or.inl (List.mem_of_getElem? (i := 165) (by decide +kernel))
    | 12, _ => exact Or.inl (List.mem_of_getElem? (i := 184) (by decide +kernel))
    | 13, _ => exact Or.inl (List.mem_of_getElem? (i := 202) (by decide +kernel))
    | 14, _ => exact Or.inl (List.mem_of_getElem? (i := 221) (by decide +kernel))
    | j + 15, hj => exact absurd hj (by omega)
theorem sn_n2 : ∀ j, j < 15 → 2 ≠ j → Cond.not (Cond.eq (tmS 2) (tmS j)) ∈ wN ∨ Cond.not (Cond.eq (tmS j) (tmS 2)) ∈ wN := by
    intro j hj hne
    match j, hj with
    | 0, _ => exact Or.inr (List.mem_of_getElem? (i := 33) (by decide +kernel))
    | 1, _ => exact Or.inr (List.mem_of_getElem? (i := 34) (by decide +kernel))
    | 2, _ => exact absurd rfl hne
    | 3, _ => exact Or.inl (List.mem_of_getElem? (i := 47) (by decide +kernel))
    | 4, _ => exact Or.inl (List.mem_of_getElem? (i := 57) (by decide +kernel))
    | 5, _ => exact Or.inl (List.mem_of_getElem? (i := 69) (by decide +kernel))
    | 6, _ => exact Or.inl (List.mem_of_getElem? (i := 80) (by decide +kernel))
    | 7, _ => exact Or.inl (List.mem_of_getElem? (i := 94) (by decide +kernel))
    | 8, _ => exact Or.inl (List.mem_of_getElem? (i := 111) (by decide +kernel))
    | 9, _ => exact Or.inl (List.mem_of_getElem? (i := 130) (by decide +kernel))
    | 10, _ => exact Or.inl (List.mem_of_getElem? (i := 147) (by decide +kernel))
    | 11, _ => exact Or.inl (List.mem_of_getElem? (i := 166) (by decide +kernel))
    | 12, _ => exact Or.inl (List.mem_of_getElem? (i := 185) (by decide +kernel))
    | 13, _ => exact Or.inl (List.mem_of_getElem? (i := 203) (by decide +kernel))
    | 14, _ => exact Or.inl (List.mem_of_getElem? (i := 222) (by decide +kernel))
    | j + 15, hj => exact absurd hj (by omega)
theorem sn_n3 : ∀ j, j < 15 → 3 ≠ j → Cond.not (Cond.eq (tmS 3) (tmS j)) ∈ wN ∨ Cond.not (Cond.eq (tmS j) (tmS 3)) ∈ wN := by
    intro j hj hne
    match j, hj with
    | 0, _ => exact Or.inr (List.mem_of_getElem? (i := 45) (by decide +kernel))
    | 1, _ => exact Or.inr (List.mem_of_getElem? (i := 46) (by decide +kernel))
    | 2, _ => exact Or.inr (List.mem_of_getElem? (i := 47) (by decide +kernel))
    | 3, _ => exact absurd rfl hne
    | 4, _ => exact Or.inl (List.mem_of_getElem? (i := 58) (by decide +kernel))
    | 5, _ => exact Or.inl (List.mem_of_getElem? (i := 70) (by decide +kernel))
    | 6, _ => exact Or.inl (List.mem_of_getElem? (i := 81) (by decide +kernel))
    | 7, _ => exact Or.inl (List.mem_of_getElem? (i := 95) (by decide +kernel))
    | 8, _ => exact Or.inl (List.mem_of_getElem? (i := 112) (by decide +kernel))
    | 9, _ => exact Or.inl (List.mem_of_getElem? (i := 131) (by decide +kernel))
    | 10, _ => exact Or.inl (List.mem_of_getElem? (i := 148) (by decide +kernel))
    | 11, _ => exact Or.inl (List.mem_of_getElem? (i := 167) (by decide +kernel))
    | 12, _ => exact Or.inl (List.mem_of_getElem? (i := 186) (by decide +kernel))
    | 13, _ => exact Or.inl (List.mem_of_getElem? (i := 204) (by decide +kernel))
    | 14, _ => exact Or.inl (List.mem_of_getElem? (i := 223) (by decide +kernel))
    | j + 15, hj => exact absurd hj (by omega)
theorem sn_n4 : ∀ j, j < 15 → 4 ≠ j → Cond.not (Cond.eq (tmS 4) (tmS j)) ∈ wN ∨ Cond.not (Cond.eq (tmS j) (tmS 4)) ∈ wN := by
    intro j hj hne
    match j, hj with
    | 0, _ => exact Or.inr (List.mem_of_getElem? (i := 55) (by decide +kernel))
    | 1, _ => exact Or.inr (List.mem_of_getElem? (i := 56) (by decide +kernel))
    | 2, _ => exact Or.inr (List.mem_of_getElem? (i := 57) (by decide +kernel))
    | 3, _ => exact Or.inr (List.mem_of_getElem? (i := 58) (by decide +kernel))
    | 4, _ => exact absurd rfl hne
    | 5, _ => exact Or.inl (List.mem_of_getElem? (i := 71) (by decide +kernel))
    | 6, _ => exact Or.inl (List.mem_of_getElem? (i := 82) (by decide +kernel))
    | 7, _ => exact Or.inl (List.mem_of_getElem? (i := 96) (by decide +kernel))
    | 8, _ => exact Or.inl (List.mem_of_getElem? (i := 113) (by decide +kernel))
    | 9, _ => exact Or.inl (List.mem_of_getElem? (i := 132) (by decide +kernel))
    | 10, _ => exact Or.inl (List.mem_of_getElem? (i := 149) (by decide +kernel))
    | 11, _ => exact Or.inl (List.mem_of_getElem? (i := 168) (by decide +kernel))
    | 12, _ => exact Or.inl (List.mem_of_getElem? (i := 187) (by decide +kernel))
    | 13, _ => exact Or.inl (List.mem_of_getElem? (i := 205) (by decide +kernel))
    | 14, _ => exact Or.inl (List.mem_of_getElem? (i := 224) (by decide +kernel))
    | j + 15, hj => exact absurd hj (by omega)
theorem sn_n5 : ∀ j, j < 15 → 5 ≠ j → Cond.not (Cond.eq (tmS 5) (tmS j)) ∈ wN ∨ Cond.not (Cond.eq (tmS j) (tmS 5)) ∈ wN := by
    intro j hj hne
    match j, hj with
    | 0, _ => exact Or.inr (List.mem_of_getElem? (i := 67) (by decide +kernel))
    | 1, _ => exact Or.inr (List.mem_of_getElem? (i := 68) (by decide +kernel))
    | 2, _ => exact Or.inr (List.mem_of_getElem? (i := 69) (by decide +kernel))
    | 3, _ => exact Or.inr (List.mem_of_getElem? (i := 70) (by decide +kernel))
    | 4, _ => exact Or.inr (List.mem_of_getElem? (i := 71) (by decide +kernel))
    | 5, _ => exact absurd rfl hne
    | 6, _ => exact Or.inl (List.mem_of_getElem? (i := 83) (by decide +kernel))
    | 7, _ => exact Or.inl (List.mem_of_getElem? (i := 97) (by decide +kernel))
    | 8, _ => exact Or.inl (List.mem_of_getElem? (i := 114) (by decide +kernel))
    | 9, _ => exact Or.inl (List.mem_of_getElem? (i := 133) (by decide +kernel))
    | 10, _ => exact Or.inl (List.mem_of_getElem? (i := 150) (by decide +kernel))
    | 11, _ => exact Or.inl (List.mem_of_getElem? (i := 169) (by decide +kernel))
    | 12, _ => exact Or.inl (List.mem_of_getElem? (i := 188) (by decide +kernel))
    | 13, _ => exact Or.inl (List.mem_of_getElem? (i := 206) (by decide +kernel))
    | 14, _ => exact Or.inl (List.mem_of_getElem? (i := 225) (by decide +kernel))
    | j + 15, hj => exact absurd hj (by omega)
theorem sn_n6 : ∀ j, j < 15 → 6 ≠ j → Cond.not (Cond.eq (tmS 6) (tmS j)) ∈ wN ∨ Cond.not (Cond.eq (tmS j) (tmS 6)) ∈ wN := by
    intro j hj hne
    match j, hj with
    | 0, _ => exact Or.inr (List.mem_of_getElem? (i := 78) (by decide +kernel))
    | 1, _ => exact Or.inr (List.mem_of_getElem? (i := 79) (by decide +kernel))
    | 2, _ => exact Or.inr (List.mem_of_getElem? (i := 80) (by decide +kernel))
    | 3, _ => exact Or.inr (List.mem_of_getElem? (i := 81) (by decide +kernel))
    | 4, _ => exact Or.inr (List.mem_of_getElem? (i := 82) (by decide +kernel))
    | 5, _ => exact Or.inr (List.mem_of_getElem? (i := 83) (by decide +kernel))
    | 6, _ => exact absurd rfl hne
    | 7, _ => exact Or.inl (List.mem_of_getElem? (i := 98) (by decide +kernel))
    | 8, _ => exact Or.inl (List.mem_of_getElem? (i := 115) (by decide +kernel))
    | 9, _ => exact Or.inl (List.mem_of_getElem? (i := 134) (by decide +kernel))
    | 10, _ => exact Or.inl (List.mem_of_getElem? (i := 151) (by decide +kernel))
    | 11, _ => exact Or.inl (List.mem_of_getElem? (i := 170) (by decide +kernel))
    | 12, _ => exact Or.inl (List.mem_of_getElem? (i := 189) (by decide +kernel))
    | 13, _ => exact Or.inl (List.mem_of_getElem? (i := 207) (by decide +kernel))
    | 14, _ => exact Or.inl (List.mem_of_getElem? (i := 226) (by decide +kernel))
    | j + 15, hj => exact absurd hj (by omega)
theorem sn_n7 : ∀ j, j < 15 → 7 ≠ j → Cond.not (Cond.eq (tmS 7) (tmS j)) ∈ wN ∨ Cond.not (Cond.eq (tmS j) (tmS 7)) ∈ wN := by
    intro j hj hne
    match j, hj with
    | 0, _ => exact Or.inr (List.mem_of_getElem? (i := 92) (by decide +kernel))
    | 1, _ => exact Or.inr (List.mem_of_getElem? (i := 93) (by decide +kernel))
    | 2, _ => exact Or.inr (List.mem_of_getElem? (i := 94) (by decide +kernel))
    | 3, _ => exact Or.inr (List.mem_of_getElem? (i := 95) (by decide +kernel))
    | 4, _ => exact Or.inr (List.mem_of_getElem? (i := 96) (by decide +kernel))
    | 5, _ => exact Or.inr (List.mem_of_getElem? (i := 97) (by decide +kernel))
    | 6, _ => exact Or.inr (List.mem_of_getElem? (i := 98) (by decide +kernel))
    | 7, _ => exact absurd rfl hne
    | 8, _ => exact Or.inl (List.mem_of_getElem? (i := 116) (by decide +kernel))
    | 9, _ => exact Or.inl (List.mem_of_getElem? (i := 135) (by decide +kernel))
    | 10, _ => exact Or.inl (List.mem_of_getElem? (i := 152) (by decide +kernel))
    | 11, _ => exact Or.inl (List.mem_of_getElem? (i := 171) (by decide +kernel))
    | 12, _ => exact Or.inl (List.mem_of_getElem? (i := 190) (by decide +kernel))
    | 13, _ => exact Or.inl (List.mem_of_getElem? (i := 208) (by decide +kernel))
    | 14, _ => exact Or.inl (List.mem_of_getElem? (i := 227) (by decide +kernel))
    | j + 15, hj => exact absurd hj (by omega)
theorem sn_n8 : ∀ j, j < 15 → 8 ≠ j → Cond.not (Cond.eq (tmS 8) (tmS j)) ∈ wN ∨ Cond.not (Cond.eq (tmS j) (tmS 8)) ∈ wN := by
    intro j hj hne
    match j, hj with
    | 0, _ => exact Or.inr (List.mem_of_getElem? (i := 109) (by decide +kernel))
    | 1, _ => exact Or.inr (List.mem_of_getElem? (i := 110) (by decide +kernel))
    | 2, _ => exact Or.inr (List.mem_of_getElem? (i := 111) (by decide +kernel))
    | 3, _ => exact Or.inr (List.mem_of_getElem? (i := 112) (by decide +kernel))
    | 4, _ => exact Or.inr (List.mem_of_getElem? (i := 113) (by decide +kernel))
    | 5, _ => exact Or.inr (List.mem_of_getElem? (i := 114) (by decide +kernel))
    | 6, _ => exact Or.inr (List.mem_of_getElem? (i := 115) (by decide +kernel))
    | 7, _ => exact Or.inr (List.mem_of_getElem? (i := 116) (by decide +kernel))
    | 8, _ => exact absurd rfl hne
    | 9, _ => exact Or.inl (List.mem_of_getElem? (i := 136) (by decide +kernel))
    | 10, _ => exact Or.inl (List.mem_of_getElem? (i := 153) (by decide +kernel))
    | 11, _ => exact Or.inl (List.mem_of_getElem? (i := 172) (by decide +kernel))
    | 12, _ => exact Or.inl (List.mem_of_getElem? (i := 191) (by decide +kernel))
    | 13, _ => exact Or.inl (List.mem_of_getElem? (i := 209) (by decide +kernel))
    | 14, _ => exact Or.inl (List.mem_of_getElem? (i := 228) (by decide +kernel))
    | j + 15, hj => exact absurd hj (by omega)
theorem sn_n9 : ∀ j, j < 15 → 9 ≠ j → Cond.not (Cond.eq (tmS 9) (tmS j)) ∈ wN ∨ Cond.not (Cond.eq (tmS j) (tmS 9)) ∈ wN := by
    intro j hj hne
    match j, hj with
    | 0, _ => exact Or.inr (List.mem_of_getElem? (i := 128) (by decide +kernel))
    | 1, _ => exact Or.inr (List.mem_of_getElem? (i := 129) (by decide +kernel))
    | 2, _ => exact Or.inr (List.mem_of_getElem? (i := 130) (by decide +kernel))
    | 3, _ => exact Or.inr (List.mem_of_getElem? (i := 131) (by decide +kernel))
    | 4, _ => exact Or.inr (List.mem_of_getElem? (i := 132) (by decide +kernel))
    | 5, _ => exact Or.inr (List.mem_of_getElem? (i := 133) (by decide +kernel))
    | 6, _ => exact Or.inr (List.mem_of_getElem? (i := 134) (by decide +kernel))
    | 7, _ => exact Or.inr (List.mem_of_getElem? (i := 135) (by decide +kernel))
    | 8, _ => exact Or.inr (List.mem_of_getElem? (i := 136) (by decide +kernel))
    | 9, _ => exact absurd rfl hne
    | 10, _ => exact Or.inl (List.mem_of_getElem? (i := 154) (by decide +kernel))
    | 11, _ => exact Or.inl (List.mem_of_getElem? (i := 173) (by decide +kernel))
    | 12, _ => exact Or.inl (List.mem_of_getElem? (i := 192) (by decide +kernel))
    | 13, _ => exact Or.inl (List.mem_of_getElem? (i := 210) (by decide +kernel))
    | 14, _ => exact Or.inl (List.mem_of_getElem? (i := 229) (by decide +kernel))
    | j + 15, hj => exact absurd hj (by omega)
theorem sn_n10 : ∀ j, j < 15 → 10 ≠ j → Cond.not (Cond.eq (tmS 10) (tmS j)) ∈ wN ∨ Cond.not (Cond.eq (tmS j) (tmS 10)) ∈ wN := by
    intro j hj hne
    match j, hj with
    | 0, _ => exact Or.inr (List.mem_of_getElem? (i := 145) (by decide +kernel))
    | 1, _ => exact Or.inr (List.mem_of_getElem? (i := 146) (by decide +kernel))
    | 2, _ => exact Or.inr (List.mem_of_getElem? (i := 147) (by decide +kernel))
    | 3, _ => exact Or.inr (List.mem_of_getElem? (i := 148) (by decide +kernel))
    | 4, _ => exact Or.inr (List.mem_of_getElem? (i := 149) (by decide +kernel))
    | 5, _ => exact Or.inr (List.mem_of_getElem? (i := 150) (by decide +kernel))
    | 6, _ => exact Or.inr (List.mem_of_getElem? (i := 151) (by decide +kernel))
    | 7, _ => exact Or.inr (List.mem_of_getElem? (i := 152) (by decide +kernel))
    | 8, _ => exact Or.inr (List.mem_of_getElem? (i := 153) (by decide +kernel))
    | 9, _ => exact Or.inr (List.mem_of_getElem? (i := 154) (by decide +kernel))
    | 10, _ => exact absurd rfl hne
    | 11, _ => exact Or.inl (List.mem_of_getElem? (i := 174) (by decide +kernel))
    | 12, _ => exact Or.inl (List.mem_of_getElem? (i := 193) (by decide +kernel))
    | 13, _ => exact Or.inl (List.mem_of_getElem? (i := 211) (by decide +kernel))
    | 14, _ => exact Or.inl (List.mem_of_getElem? (i := 230) (by decide +kernel))
    | j + 15, hj => exact absurd hj (by omega)
theorem sn_n11 : ∀ j, j < 15 → 11 ≠ j → Cond.not (Cond.eq (tmS 11) (tmS j)) ∈ wN ∨ Cond.not (Cond.eq (tmS j) (tmS 11)) ∈ wN := by
    intro j hj hne
    match j, hj with
    | 0, _ => exact Or.inr (List.mem_of_getElem? (i := 164) (by decide +kernel))
    | 1, _ => exact Or.inr (List.mem_of_getElem? (i := 165) (by decide +kernel))
    | 2, _ => exact Or.inr (List.mem_of_getElem? (i := 166) (by decide +kernel))
    | 3, _ => exact Or.inr (List.mem_of_getElem? (i := 167) (by decide +kernel))
    | 4, _ => exact Or.inr (List.mem_of_getElem? (i := 168) (by decide +kernel))
    | 5, _ => exact Or.inr (List.mem_of_getElem? (i := 169) (by decide +kernel))
    | 6, _ => exact Or.inr (List.mem_of_getElem? (i := 170) (by decide +kernel))
    | 7, _ => exact Or.inr (List.mem_of_getElem? (i := 171) (by decide +kernel))
    | 8, _ => exact Or.inr (List.mem_of_getElem? (i := 172) (by decide +kernel))
    | 9, _ => exact Or.inr (List.mem_of_getElem? (i := 173) (by decide +kernel))
    | 10, _ => exact Or.inr (List.mem_of_getElem? (i := 174) (by decide +kernel))
    | 11, _ => exact absurd rfl hne
    | 12, _ => exact Or.inl (List.mem_of_getElem? (i := 194) (by decide +kernel))
    | 13, _ => exact Or.inl (List.mem_of_getElem? (i := 212) (by decide +kernel))
    | 14, _ => exact Or.inl (List.mem_of_getElem? (i := 231) (by decide +kernel))
    | j + 15, hj => exact absurd hj (by omega)
theorem sn_n12 : ∀ j, j < 15 → 12 ≠ j → Cond.not (Cond.eq (tmS 12) (tmS j)) ∈ wN ∨ Cond.not (Cond.eq (tmS j) (tmS 12)) ∈ wN := by
    intro j hj hne
    match j, hj with
    | 0, _ => exact Or.inr (List.mem_of_getElem? (i := 183) (by decide +kernel))
    | 1, _ => exact Or.inr (List.mem_of_getElem? (i := 184) (by decide +kernel))
    | 2, _ => exact Or.inr (List.mem_of_getElem? (i := 185) (by decide +kernel))
    | 3, _ => exact Or.inr (List.mem_of_getElem? (i := 186) (by decide +kernel))
    | 4, _ => exact Or.inr (List.mem_of_getElem? (i := 187) (by decide +kernel))
    | 5, _ => exact Or.inr (List.mem_of_getElem? (i := 188) (by decide +kernel))
    | 6, _ => exact Or.inr (List.mem_of_getElem? (i := 189) (by decide +kernel))
    | 7, _ => exact Or.inr (List.mem_of_getElem? (i := 190) (by decide +kernel))
    | 8, _ => exact Or.inr (List.mem_of_getElem? (i := 191) (by decide +kernel))
    | 9, _ => exact Or.inr (List.mem_of_getElem? (i := 192) (by decide +kernel))
    | 10, _ => exact Or.inr (List.mem_of_getElem? (i := 193) (by decide +kernel))
    | 11, _ => exact Or.inr (List.mem_of_getElem? (i := 194) (by decide +kernel))
    | 12, _ => exact absurd rfl hne
    | 13, _ => exact Or.inl (List.mem_of_getElem? (i := 213) (by decide +kernel))
    | 14, _ => exact Or.inl (List.mem_of_getElem? (i := 232) (by decide +kernel))
    | j + 15, hj => exact absurd hj (by omega)
theorem sn_n13 : ∀ j, j < 15 → 13 ≠ j → Cond.not (Cond.eq (tmS 13) (tmS j)) ∈ wN ∨ Cond.not (Cond.eq (tmS j) (tmS 13)) ∈ wN := by
    intro j hj hne
    match j, hj with
    | 0, _ => exact Or.inr (List.mem_of_getElem? (i := 201) (by decide +kernel))
    | 1, _ => exact Or.inr (List.mem_of_getElem? (i := 202) (by decide +kernel))
    | 2, _ => exact Or.inr (List.mem_of_getElem? (i := 203) (by decide +kernel))
    | 3, _ => exact Or.inr (List.mem_of_getElem? (i := 204) (by decide +kernel))
    | 4, _ => exact Or.inr (List.mem_of_getElem? (i := 205) (by decide +kernel))
    | 5, _ => exact Or.inr (List.mem_of_getElem? (i := 206) (by decide +kernel))
    | 6, _ => exact Or.inr (List.mem_of_getElem? (i := 207) (by decide +kernel))
    | 7, _ => exact Or.inr (List.mem_of_getElem? (i := 208) (by decide +kernel))
    | 8, _ => exact Or.inr (List.mem_of_getElem? (i := 209) (by decide +kernel))
    | 9, _ => exact Or.inr (List.mem_of_getElem? (i := 210) (by decide +kernel))
    | 10, _ => exact Or.inr (List.mem_of_getElem? (i := 211) (by decide +kernel))
    | 11, _ => exact Or.inr (List.mem_of_getElem? (i := 212) (by decide +kernel))
    | 12, _ => exact Or.inr (List.mem_of_getElem? (i := 213) (by decide +kernel))
    | 13, _ => exact absurd rfl hne
    | 14, _ => exact Or.inl (List.mem_of_getElem? (i := 233) (by decide +kernel))
    | j + 15, hj => exact absurd hj (by omega)
theorem sn_n14 : ∀ j, j < 15 → 14 ≠ j → Cond.not (Cond.eq (tmS 14) (tmS j)) ∈ wN ∨ Cond.not (Cond.eq (tmS j) (tmS 14)) ∈ wN := by
    intro j hj hne
    match j, hj with
    | 0, _ => exact Or.inr (List.mem_of_getElem? (i := 220) (by decide +kernel))
    | 1, _ => exact Or.inr (List.mem_of_getElem? (i := 221) (by decide +kernel))
    | 2, _ => exact Or.inr (List.mem_of_getElem? (i := 222) (by decide +kernel))
    | 3, _ => exact Or.inr (List.mem_of_getElem? (i := 223) (by decide +kernel))
    | 4, _ => exact Or.inr (List.mem_of_getElem? (i := 224) (by decide +kernel))
    | 5, _ => exact Or.inr (List.mem_of_getElem? (i := 225) (by decide +kernel))
    | 6, _ => exact Or.inr (List.mem_of_getElem? (i := 226) (by decide +kernel))
    | 7, _ => exact Or.inr (List.mem_of_getElem? (i := 227) (by decide +kernel))
    | 8, _ => exact Or.inr (List.mem_of_getElem? (i := 228) (by decide +kernel))
    | 9, _ => exact Or.inr (List.mem_of_getElem? (i := 229) (by decide +kernel))
    | 10, _ => exact Or.inr (List.mem_of_getElem? (i := 230) (by decide +kernel))
    | 11, _ => exact Or.inr (List.mem_of_getElem? (i := 231) (by decide +kernel))
    | 12, _ => exact Or.inr (List.mem_of_getElem? (i := 232) (by decide +kernel))
    | 13, _ => exact Or.inr (List.mem_of_getElem? (i := 233) (by decide +kernel))
    | 14, _ => exact absurd rfl hne
    | j + 15, hj => exact absurd hj (by omega)
theorem sn_ne : ∀ i, i < 15 → ∀ j, j < 15 → i ≠ j → Cond.not (Cond.eq (tmS i) (tmS j)) ∈ wN ∨ Cond.not (Cond.eq (tmS j) (tmS i)) ∈ wN := by
  intro i hi j hj hne
  match i, hi with
  | 0, _ => exact sn_n0 j hj hne
  | 1, _ => exact sn_n1 j hj hne
  | 2, _ => exact sn_n2 j hj hne
  | 3, _ => exact sn_n3 j hj hne
  | 4, _ => exact sn_n4 j hj hne
  | 5, _ => exact sn_n5 j hj hne
  | 6, _ => exact sn_n6 j hj hne
  | 7, _ => exact sn_n7 j hj hne
  | 8, _ => exact sn_n8 j hj hne
  | 9, _ => exact sn_n9 j hj hne
  | 10, _ => exact sn_n10 j hj hne
  | 11, _ => exact sn_n11 j hj hne
  | 12, _ => exact sn_n12 j hj hne
  | 13, _ => exact sn_n13 j hj hne
  | 14, _ => exact sn_n14 j hj hne
  | i + 15, hi => exact absurd hi (by omega)
theorem sn_sr : ∀ i, i < 15 → Cond.stringRef RX2 (strIx.getD i 0) (strTx.getD i "") ∈ lw_tbl := by
  intro i hi
  match i, hi with
  | 0, _ => exact List.mem_of_getElem? (i := 618) (by decide +kernel)
  | 1, _ => exact List.mem_of_getElem? (i := 619) (by decide +kernel)
  | 2, _ => exact List.mem_of_getElem? (i := 620) (by decide +kernel)
  | 3, _ => exact List.mem_of_getElem? (i := 621) (by decide +kernel)
  | 4, _ => exact List.mem_of_getElem? (i := 622) (by decide +kernel)
  | 5, _ => exact List.mem_of_getElem? (i := 623) (by decide +kernel)
  | 6, _ => exact List.mem_of_getElem? (i := 680) (by decide +kernel)
  | 7, _ => exact List.mem_of_getElem? (i := 689) (by decide +kernel)
  | 8, _ => exact List.mem_of_getElem? (i := 690) (by decide +kernel)
  | 9, _ => exact List.mem_of_getElem? (i := 691) (by decide +kernel)
  | 10, _ => exact List.mem_of_getElem? (i := 693) (by decide +kernel)
  | 11, _ => exact List.mem_of_getElem? (i := 698) (by decide +kernel)
  | 12, _ => exact List.mem_of_getElem? (i := 703) (by decide +kernel)
  | 13, _ => exact List.mem_of_getElem? (i := 708) (by decide +kernel)
  | 14, _ => exact List.mem_of_getElem? (i := 709) (by decide +kernel)
  | j + 15, hj => exact absurd hj (by omega)
def STF (adK adV : Nat → Nat) (z : Nat) (U : State) : Prop := vk_S nStr strLen strByt adK adV (fun q => U.heap.size ≤ q) U U.heap ∧ (∀ j, j < nStr → vk_R RX2 (strIx.getD j 0) (strTx.getD j "") (adK j) U) ∧ va_Z "java/lang/String" "COMPACT_STRINGS" "Z" (.int 1) (fun q => U.heap.size ≤ q) U U.heap ∧ (va_Z "jdk/internal/util/Preconditions" "SIOOBE_FORMATTER" "Ljava/util/function/BiFunction;" (.ref z) (fun q => U.heap.size ≤ q) U U.heap ∨ va_Z "jdk/internal/util/Preconditions" "SIOOBE_FORMATTER" "Ljava/util/function/BiFunction;" .null (fun q => U.heap.size ≤ q) U U.heap)
theorem lw_str {s : State} {args : Array Value} (ht : ∀ w ∈ tW, w.before args s = true) (hts : ∀ w ∈ lw_tbl, w.before args s = true) (hg : (Jvm.Cond.and given_1 narrow_1).before args s = true) : ∃ adK adV z, STF adK adV z s := by
  have hn := flat_of_before _ hg
  have hA : ∀ a : Nat, a < s.heap.size → ¬ s.heap.size ≤ a := fun a h => Nat.not_le.mpr h
  obtain ⟨adK, adV, h1, h2⟩ := vk_Sof (N := 15) (tm := tmS) (len := strLen) (byt := strByt) (A := fun q => s.heap.size ≤ q) (args := args) (s := s) (by decide) (fun i hi => hn _ (sn_ex i hi)) (fun i hi => hn _ (sn_co i hi)) (fun i hi => hn _ (sn_ar i hi)) (fun i hi => hn _ (sn_le i hi)) (fun i hi j hj => hn _ (sn_el i hi j hj)) (fun i j hi hj hne => (sn_ne i hi j hj hne).imp (fun h => hn _ h) (fun h => hn _ h)) hA
  have h3 : va_Z "java/lang/String" "COMPACT_STRINGS" "Z" (.int 1) (fun q => s.heap.size ≤ q) s s.heap := va_Zof (args := args) (hts _ (List.mem_of_getElem? (i := 637) (by decide +kernel))) (ht _ ini_J0) (va_eqi (hn _ (List.mem_of_getElem? (i := 4) (by decide +kernel)))) hA
  have h4 := va_Zqof (args := args) (s := s) (C := "jdk/internal/util/Preconditions") (n := "SIOOBE_FORMATTER") (d := "Ljava/util/function/BiFunction;") (A := fun q => s.heap.size ≤ q) (hts _ (List.mem_of_getElem? (i := 653) (by decide +kernel))) (ht _ ini_J3) (hn _ (List.mem_of_getElem? (i := 5) (by decide +kernel))) hA
  have h5 : ∀ j, j < nStr → vk_R RX2 (strIx.getD j 0) (strTx.getD j "") (adK j) s := fun j hj => vk_R.of (A := args) (hts _ (sn_sr j hj)) (h2 j hj)
  rcases h4 with h4 | ⟨z, h4⟩
  · exact ⟨adK, adV, 0, h1, h5, h3, Or.inr h4⟩
  · exact ⟨adK, adV, z, h1, h5, h3, Or.inl h4⟩
