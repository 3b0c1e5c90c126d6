/-! THE START: the first numbers, the strings, the tables -/
def M0 : Mk := fun j i => if j = 4 ∧ i < 4 then 5 else if j = 5 ∧ i < 12 then 10 else 0
def S0 : St := fun k j i => if k < 4 then M0 j i else 0
def X0 : St := fun k j i => if k = 0 then M0 j i else 0
def N0 : Nat → Nat → Int64 := fun _ _ => 0
def Y0 : Nat → Int64 := fun _ => 0
theorem M0_le (j i : Nat) : M0 j i ≤ 10 := by
  unfold M0
  split
  · decide
  · split <;> decide
theorem M0_z {j i : Nat} (h4 : j ≠ 4) (h5 : j ≠ 5) : M0 j i = 0 := by
  unfold M0
  rw [if_neg (fun z => h4 z.1), if_neg (fun z => h5 z.1)]
theorem wf_M0 : WF M0 := by
  refine ⟨?_, ?_, ?_, fun c => ⟨?_, ?_, ?_, ?_⟩, fun o => ?_, fun t => ?_, fun i => ⟨?_, ?_, ?_, ?_, ?_⟩⟩
  all_goals first
    | (rw [M0_z (by decide) (by decide)]; exact Nat.zero_le _)
    | skip
  · unfold M0
    split
    · decide
    · rw [if_neg (by omega)]; decide
  · have := M0_le 5 t
    omega
theorem S0_0 : S0 0 = M0 := rfl
theorem rel0 : Rel S0 N0 X0 Y0 := by
  refine ⟨rfl, ⟨wf_M0, fun i hi => ?_⟩, ⟨by decide, rfl, fun h => absurd h (by decide)⟩, ⟨rfl, rfl, ⟨by decide, fun i hi => absurd hi (by show ¬ i < 0; omega)⟩⟩, ⟨fun f _ => rfl, rfl⟩, fun t ht => ⟨Or.inl rfl, by show 0 ≤ 40; decide, rfl, rfl⟩, fun _ _ _ _ => rfl⟩
  have h2 : i < M0 13 1 := hi
  rw [M0_z (by decide) (by decide)] at h2
  omega
theorem arrV_congr {cI : ClassId} {n : Nat} {f g : Nat → Value} (h : ∀ j, j < n → f j = g j) : arrV cI n f = arrV cI n g := by
  unfold arrV
  congr 1
  exact congrArg Array.ofFn (funext fun j => h j.val j.isLt)
theorem at_i {D : va_G} {a : Nat} {c : ClassId} {n : Nat} {f g : Nat → Int32} {H : Heap} (h : va_at D vwCl (a, .inl (c, n, .inl f)) H) (e : ∀ j, j < n → f j = g j) : va_at D vwCl (a, .inl (c, n, .inl g)) H := by
  have h2 : H[a]? = some (arrV c n (fun j => .int (f j))) := h
  show H[a]? = some (arrV c n (fun j => .int (g j)))
  rw [h2, arrV_congr (fun j hj => by rw [e j hj])]
theorem at_r {D : va_G} {a : Nat} {c : ClassId} {n : Nat} {f g : Nat → Option Nat} {H : Heap} (h : va_at D vwCl (a, .inl (c, n, .inr (.inr (.inr (.inr f))))) H) (e : ∀ j, j < n → f j = g j) : va_at D vwCl (a, .inl (c, n, .inr (.inr (.inr (.inr g))))) H := by
  have h2 : H[a]? = some (arrV c n (fun j => va_rf (f j))) := h
  show H[a]? = some (arrV c n (fun j => va_rf (g j)))
  rw [h2, arrV_congr (fun j hj => by rw [e j hj])]
def AL (β γ adK adV : Nat → Nat) (z : Nat) : Nat → Nat := fun i => if i < 69 then β i else if i < 80 then γ (i - 69) else if i < 1000 then 0 else if i < 2000 then adK (i - 1000) else if i < 3000 then adV (i - 2000) else z

set_option maxHeartbeats 4000000 in
theorem al_fst (β γ adK adV : Nat → Nat) (z : Nat) (cA : Nat → ClassId) : ∀ i, i < 80 → ((clW β cA ++ xW γ cA)[i]?).map Prod.fst = some (AL β γ adK adV z i) := by
  intro i hi
  match i, hi with
  | 0, _ => rfl
  | 1, _ => rfl
  | 2, _ => rfl
  | 3, _ => rfl
  | 4, _ => rfl
  | 5, _ => rfl
  | 6, _ => rfl
  | 7, _ => rfl
  | 8, _ => rfl
  | 9, _ => rfl
  | 10, _ => rfl
  | 11, _ => rfl
  | 12, _ => rfl
  | 13, _ => rfl
  | 14, _ => rfl
  | 15, _ => rfl
  | 16, _ => rfl
  | 17, _ => rfl
  | 18, _ => rfl
  | 19, _ => rfl
  | 20, _ => rfl
  | 21, _ => rfl
  | 22, _ => rfl
  | 23, _ => rfl
  | 24, _ => rfl
  | 25, _ => rfl
  | 26, _ => rfl
  | 27, _ => rfl
  | 28, _ => rfl
  | 29, _ => rfl
  | 30, _ => rfl
  | 31, _ => rfl
  | 32, _ => rfl
  | 33, _ => rfl
  | 34, _ => rfl
  | 35, _ => rfl
  | 36, _ => rfl
  | 37, _ => rfl
  | 38, _ => rfl
  | 39, _ => rfl
  | 40, _ => rfl
  | 41, _ => rfl
  | 42, _ => rfl
  | 43, _ => rfl
  | 44, _ => rfl
  | 45, _ => rfl
  | 46, _ => rfl
  | 47, _ => rfl
  | 48, _ => rfl
  | 49, _ => rfl
  | 50, _ => rfl
  | 51, _ => rfl
  | 52, _ => rfl
  | 53, _ => rfl
  | 54, _ => rfl
  | 55, _ => rfl
  | 56, _ => rfl
  | 57, _ => rfl
  | 58, _ => rfl
  | 59, _ => rfl
  | 60, _ => rfl
  | 61, _ => rfl
  | 62, _ => rfl
  | 63, _ => rfl
  | 64, _ => rfl
  | 65, _ => rfl
  | 66, _ => rfl
  | 67, _ => rfl
  | 68, _ => rfl
  | 69, _ => rfl
  | 70, _ => rfl
  | 71, _ => rfl
  | 72, _ => rfl
  | 73, _ => rfl
  | 74, _ => rfl
  | 75, _ => rfl
  | 76, _ => rfl
  | 77, _ => rfl
  | 78, _ => rfl
  | 79, _ => rfl
  | j + 80, hj => exact absurd hj (by omega)

theorem so_row : ∀ j, j < 4 → fil 0 (nI 5) 4 (fun _ => 0) j = nI (M0 4 j) := by
  intro j hj
  unfold fil M0
  rw [if_pos (by omega), if_pos ⟨rfl, hj⟩]
theorem pr_row : ∀ j, j < 12 → fil 0 (nI 10) 12 (fun _ => 0) j = nI (M0 5 j) := by
  intro j hj
  unfold fil M0
  rw [if_pos (by omega), if_neg (by omega), if_pos ⟨rfl, hj⟩]
theorem z_row : ∀ j, j < 108 → (0 : Int32) = nI (rowOf (fun _ _ => 0) j) := by
  intro j hj
  unfold rowOf
  rw [if_pos hj]
  rfl
theorem s_row : ∀ j, j < 108 → fil 8 (nI 10) 12 (fil 4 (nI 5) 4 (fun _ => 0)) j = nI (rowOf M0 j) := by
  intro j hj
  unfold rowOf
  rw [if_pos hj]
  exact (by decide +kernel : ∀ j, j < 108 → fil 8 (nI 10) 12 (fil 4 (nI 5) 4 (fun _ => 0)) j = nI (M0 (rj j) (ri j))) j hj
theorem b_row : ∀ j, j < 4 → fil 0 (-1) 4 (fun _ => 0) j = bitI 0 := by
  intro j hj
  unfold fil
  rw [if_pos (by omega)]
  rfl
theorem sh_row {β γ adK adV : Nat → Nat} {z : Nat} : ∀ j, j < 4 → va_up (va_up (va_up (va_up (fun _ => none) 0 (some (β 60))) 1 (some (β 62))) 2 (some (β 64))) 3 (some (β 66)) j = (some (so j)).map (AL β γ adK adV z) := by
  intro j hj
  match j, hj with
  | 0, _ => rfl
  | 1, _ => rfl
  | 2, _ => rfl
  | 3, _ => rfl

set_option maxHeartbeats 4000000 in
set_option maxRecDepth 100000 in
theorem al_at {β γ adK adV : Nat → Nat} {z : Nat} {cA : Nat → ClassId} {D : va_G} {H : Heap} (hP : va_P D vwCl (clW β cA ++ xW γ cA) H) : ∀ i, i < 80 → va_at D vwCl (AL β γ adK adV z i, cE (AL β γ adK adV z) cA (hp S0 N0 X0 Y0 i)) H := by
  intro i hi
  match i, hi with
  | 0, _ => exact hP 0 _ rfl
  | 1, _ => exact hP 1 _ rfl
  | 2, _ => exact hP 2 _ rfl
  | 3, _ => exact hP 3 _ rfl
  | 4, _ => exact hP 4 _ rfl
  | 5, _ => exact hP 5 _ rfl
  | 6, _ => exact at_i (hP 6 _ rfl) so_row
  | 7, _ => exact at_i (hP 7 _ rfl) pr_row
  | 8, _ => exact hP 8 _ rfl
  | 9, _ => exact hP 9 _ rfl
  | 10, _ => exact hP 10 _ rfl
  | 11, _ => exact hP 11 _ rfl
  | 12, _ => exact hP 12 _ rfl
  | 13, _ => exact hP 13 _ rfl
  | 14, _ => exact hP 14 _ rfl
  | 15, _ => exact hP 15 _ rfl
  | 16, _ => exact hP 16 _ rfl
  | 17, _ => exact hP 17 _ rfl
  | 18, _ => exact hP 18 _ rfl
  | 19, _ => exact hP 19 _ rfl
  | 20, _ => exact at_i (hP 20 _ rfl) so_row
  | 21, _ => exact at_i (hP 21 _ rfl) pr_row
  | 22, _ => exact hP 22 _ rfl
  | 23, _ => exact hP 23 _ rfl
  | 24, _ => exact hP 24 _ rfl
  | 25, _ => exact hP 25 _ rfl
  | 26, _ => exact hP 26 _ rfl
  | 27, _ => exact hP 27 _ rfl
  | 28, _ => exact hP 28 _ rfl
  | 29, _ => exact hP 29 _ rfl
  | 30, _ => exact hP 30 _ rfl
  | 31, _ => exact hP 31 _ rfl
  | 32, _ => exact hP 32 _ rfl
  | 33, _ => exact hP 33 _ rfl
  | 34, _ => exact at_i (hP 34 _ rfl) so_row
  | 35, _ => exact at_i (hP 35 _ rfl) pr_row
  | 36, _ => exact hP 36 _ rfl
  | 37, _ => exact hP 37 _ rfl
  | 38, _ => exact hP 38 _ rfl
  | 39, _ => exact hP 39 _ rfl
  | 40, _ => exact hP 40 _ rfl
  | 41, _ => exact hP 41 _ rfl
  | 42, _ => exact hP 42 _ rfl
  | 43, _ => exact hP 43 _ rfl
  | 44, _ => exact hP 44 _ rfl
  | 45, _ => exact hP 45 _ rfl
  | 46, _ => exact hP 46 _ rfl
  | 47, _ => exact hP 47 _ rfl
  | 48, _ => exact at_i (hP 48 _ rfl) so_row
  | 49, _ => exact at_i (hP 49 _ rfl) pr_row
  | 50, _ => exact hP 50 _ rfl
  | 51, _ => exact hP 51 _ rfl
  | 52, _ => exact hP 52 _ rfl
  | 53, _ => exact hP 53 _ rfl
  | 54, _ => exact hP 54 _ rfl
  | 55, _ => exact hP 55 _ rfl
  | 56, _ => exact hP 56 _ rfl
  | 57, _ => exact hP 57 _ rfl
  | 58, _ => exact hP 58 _ rfl
  | 59, _ => exact at_r (hP 59 _ rfl) sh_row
  | 60, _ => exact hP 60 _ rfl
  | 61, _ => exact hP 61 _ rfl
  | 62, _ => exact hP 62 _ rfl
  | 63, _ => exact hP 63 _ rfl
  | 64, _ => exact hP 64 _ rfl
  | 65, _ => exact hP 65 _ rfl
  | 66, _ => exact hP 66 _ rfl
  | 67, _ => exact hP 67 _ rfl
  | 68, _ => exact hP 68 _ rfl
  | 69, _ => exact hP 69 _ rfl
  | 70, _ => exact at_i (hP 70 _ rfl) s_row
  | 71, _ => exact at_i (hP 71 _ rfl) z_row
  | 72, _ => exact at_i (hP 72 _ rfl) z_row
  | 73, _ => exact hP 73 _ rfl
  | 74, _ => exact hP 74 _ rfl
  | 75, _ => exact at_i (hP 75 _ rfl) b_row
  | 76, _ => exact hP 76 _ rfl
  | 77, _ => exact hP 77 _ rfl
  | 78, _ => exact hP 78 _ rfl
  | 79, _ => exact hP 79 _ rfl
  | j + 80, hj => exact absurd hj (by omega)

theorem al_P {β γ adK adV : Nat → Nat} {z : Nat} {cA : Nat → ClassId} {D : va_G} {H : Heap} (hP : va_P D vwCl (clW β cA ++ xW γ cA) H) : va_P D vwCl (cW (AL β γ adK adV z) cA (hp S0 N0 X0 Y0)) H := by
  intro k q hk
  have hl : k < nC := by
    have := (List.getElem?_eq_some_iff.mp hk).1
    rwa [cW_len] at this
  rw [cW_at hl] at hk
  cases hk
  exact al_at hP k hl
theorem al_inj {β γ adK adV : Nat → Nat} {z : Nat} {cA : Nat → ClassId} {A : Nat → Prop} (hD : va_D A (clW β cA ++ xW γ cA)) : ainj (AL β γ adK adV z) ∧ ∀ i, i < nC → A (AL β γ adK adV z i) := by
  have key : ∀ i, i < 80 → ∃ q, (clW β cA ++ xW γ cA)[i]? = some q ∧ q.1 = AL β γ adK adV z i := by
    intro i hi
    have h := al_fst β γ adK adV z cA i hi
    cases hq : (clW β cA ++ xW γ cA)[i]? with
    | none => rw [hq] at h; cases h
    | some q => rw [hq] at h; exact ⟨q, rfl, Option.some.inj h⟩
  refine ⟨fun i j hi hj e => ?_, fun i hi => ?_⟩
  · obtain ⟨p, h1, h2⟩ := key i hi
    obtain ⟨q, h3, h4⟩ := key j hj
    exact hD.1 i j p q h1 h3 (by rw [h2, h4]; exact e)
  · obtain ⟨p, h1, h2⟩ := key i hi
    rw [← h2]
    exact hD.2 i p h1
