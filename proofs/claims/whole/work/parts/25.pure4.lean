def payU (M : Mk) (s t L n : Nat) : Mk := fun j i => if j = 1 ∧ i < n ∧ bit s i = 1 then t else if j = 13 ∧ i = 3 then L else M j i
theorem payU_0 (M : Mk) (s t L : Nat) : payU M s t L 0 = u2 M 13 3 L := by
  funext j i
  simp [payU, u2]
theorem payU_no {M : Mk} {s t L n : Nat} (h : ¬ bit s n = 1) : payU M s t L (n + 1) = payU M s t L n := by
  funext j i
  unfold payU
  by_cases hi : i = n
  · subst hi; simp [h]
  · have : i < n + 1 ↔ i < n := by omega
    simp [this]
theorem payU_yes {M : Mk} {s t L n : Nat} (h : bit s n = 1) : payU M s t L (n + 1) = u2 (payU M s t L n) 1 n t := by
  funext j i
  unfold payU u2
  by_cases hi : i = n
  · subst hi
    by_cases hj : j = 1 <;> simp [h, hj]
  · have : i < n + 1 ↔ i < n := by omega
    simp [this, hi]
theorem payU_M (M : Mk) (f t v : Nat) : payU M (chs M f v) t (M 13 3 + (v - wset M (chs M f v))) (M 13 0) = payM M f t v := rfl
theorem max_sub2 {a b : Nat} (ha : a < 2 ^ 30) (hb : b < 2 ^ 30) : (if nI 0 < nI a - nI b then nI a - nI b else nI 0) = nI (a - b) := by
  by_cases h : b ≤ a
  · rw [pk_sub h, maxN (by omega) (by omega), Nat.zero_max]
  · have h1 : nI a - nI b < 0 := pk_sneg (by omega) (by omega)
    rw [if_neg, show a - b = 0 by omega]
    intro h2
    have h3 : nI a - nI b < nI 0 := h1
    rw [Int32.lt_iff_toInt_lt] at h2 h3
    omega
/-! the tax -/
def grt (M : Mk) (o : Nat) : Nat → Nat
  | 0 => 0
  | n + 1 => if snd M o n ∧ (grt M o n = 0 ∨ wrt M (grt M o n - 1) < wrt M n) then n + 1 else grt M o n
theorem grt_le (M : Mk) (o : Nat) : ∀ n, grt M o n ≤ n := by
  intro n
  induction n with
  | zero => exact Nat.le_refl _
  | succ n ih => unfold grt; split <;> omega
def gwI (M : Mk) (b : Nat) : Int32 := if b = 0 then -1 else nI (wrt M (b - 1))
theorem gw_le {M : Mk} {b w : Nat} (hw : WF M) (h : w ≤ 980) : nI w ≤ gwI M b ↔ b ≠ 0 ∧ w ≤ wrt M (b - 1) := by
  unfold gwI
  by_cases hb : b = 0
  · rw [if_pos hb]
    refine ⟨fun z => ?_, fun z => absurd hb z.1⟩
    have h0 : nI w < 0 := Int32.lt_of_le_of_lt z (by decide)
    exact absurd h0 (nI_pos (by omega))
  · have := wrt_le hw (b - 1)
    rw [if_neg hb, nI_leI (by omega) (by omega)]
    exact ⟨fun z => ⟨hb, z⟩, fun z => z.2⟩
def txd (M : Mk) : Nat → Mk
  | 0 => M
  | o + 1 => if grt (txd M o) o (M 13 0) = 0 then txd M o else u2 (txd M o) 0 (grt (txd M o) o (M 13 0) - 1) 4
def txn (M : Mk) : Nat → Nat
  | 0 => 0
  | o + 1 => if grt (txd M o) o (M 13 0) = 0 then txn M o else txn M o + 1
theorem txd_at {M : Mk} {n j i : Nat} (h : j ≠ 0) : txd M n j i = M j i := by
  induction n with
  | zero => rfl
  | succ n ih =>
    unfold txd
    split
    · exact ih
    · rw [u2_nj _ h]; exact ih
theorem wf_txd {M : Mk} (h : WF M) (n : Nat) : WF (txd M n) := by
  induction n with
  | zero => exact h
  | succ n ih =>
    unfold txd
    split
    · exact ih
    · refine ih.upd ?_
      omega
theorem txn_le (M : Mk) (n : Nat) : txn M n ≤ n := by
  induction n with
  | zero => exact Nat.le_refl _
  | succ n ih => unfold txn; split <;> omega
/-! the greatest of four -/
def rch (f : Nat → Nat) : Nat → Nat
  | 0 => 0
  | n + 1 => if f (rch f n) < f (n + 1) then n + 1 else rch f n
theorem rch_le (f : Nat → Nat) (n : Nat) : rch f n ≤ n := by
  induction n with
  | zero => exact Nat.le_refl _
  | succ n ih => unfold rch; split <;> omega
def bl (M : Mk) (o : Nat) : Nat := sm (fun c => if snd M o c ∧ blue (M 0 c) then 1 else 0) (M 13 0)
def mblv (f : Nat → Nat) (b : Nat) : Nat := if b = 0 then 0 else f (b - 1)
def mbl (f : Nat → Nat) : Nat → Nat
  | 0 => 0
  | n + 1 => if mblv f (mbl f n) < f n then n + 1 else mbl f n
theorem mbl_le (f : Nat → Nat) (n : Nat) : mbl f n ≤ n := by
  induction n with
  | zero => exact Nat.le_refl _
  | succ n ih => unfold mbl; split <;> omega
theorem mbl_rch (f : Nat → Nat) : ∀ n, (f (rch f n) = 0 → mbl f (n + 1) = 0) ∧ (f (rch f n) ≠ 0 → mbl f (n + 1) = rch f n + 1) := by
  intro n
  induction n with
  | zero =>
    refine ⟨fun h => ?_, fun h => ?_⟩
    · have h : f 0 = 0 := h
      show (if 0 < f 0 then 1 else 0) = 0
      rw [if_neg (by omega)]
    · have h : f 0 ≠ 0 := h
      show (if 0 < f 0 then 1 else 0) = 1
      rw [if_pos (by omega)]
  | succ n ih =>
    obtain ⟨h1, h2⟩ := ih
    have e : mbl f (n + 1 + 1) = if mblv f (mbl f (n + 1)) < f (n + 1) then n + 1 + 1 else mbl f (n + 1) := rfl
    have e2 : rch f (n + 1) = if f (rch f n) < f (n + 1) then n + 1 else rch f n := rfl
    have e3 : mblv f (mbl f (n + 1)) = f (rch f n) := by
      by_cases h0 : f (rch f n) = 0
      · rw [h1 h0, h0]; rfl
      · rw [h2 h0]; rfl
    rw [e, e2, e3]
    by_cases hh : f (rch f n) < f (n + 1)
    · rw [if_pos hh, if_pos hh]
      exact ⟨fun z => by omega, fun _ => rfl⟩
    · rw [if_neg hh, if_neg hh]
      exact ⟨h1, h2⟩
/-! a row copied whole -/
def u3r (S : St) (k j : Nat) (f : Nat → Nat) : St := fun a b c => if a = k ∧ b = j then f c else S a b c
theorem u3r_oth (S : St) {k j a : Nat} {f : Nat → Nat} (h : a ≠ k) : u3r S k j f a = S a := by
  funext b c
  simp [u3r, h]
theorem u3r_othj (S : St) {k j a b : Nat} {f : Nat → Nat} (h : b ≠ j) : u3r S k j f a b = S a b := by
  funext c
  simp [u3r, h]
theorem u3r_s (S : St) (k j : Nat) (f : Nat → Nat) : u3r S k j f k j = f := by
  funext c
  simp [u3r]
theorem hp_cong {S S' : St} {N : Nat → Nat → Int64} {X : St} {Y : Nat → Int64} (h1 : ∀ k, k < 4 → (∀ j, j < 11 → S k j = S' k j) ∧ ∀ f, f < 4 → S k 13 f = S' k 13 f) (h2 : ∀ k, 4 ≤ k → S k = S' k) : hp S N X Y = hp S' N X Y := by
  funext q
  unfold hp
  have e1 : cfs S = cfs S' := by unfold cfs; rw [h2 5 (by omega)]
  have e2 : tfs S = tfs S' := by unfold tfs; rw [h2 4 (by omega)]
  have e3 : sfs S = sfs S' := by funext t; unfold sfs; rw [h2 6 (by omega)]
  rw [e1, e2, e3, h2 4 (by omega), h2 5 (by omega)]
  by_cases h0 : q = 0
  · rw [if_pos h0, if_pos h0]
  rw [if_neg h0, if_neg h0]
  by_cases hq : q < 57
  · rw [if_pos hq, if_pos hq]
    by_cases hz : (q - 1) % 14 = 0
    · rw [if_pos hz, if_pos hz]
      obtain ⟨-, g⟩ := h1 ((q - 1) / 14) (by omega)
      unfold mfs
      rw [g 0 (by omega), g 1 (by omega), g 2 (by omega), g 3 (by omega)]
    · rw [if_neg hz, if_neg hz]
      have e : S (mk ((q - 1) / 14) ((q - 1) % 14 - 1)) ((q - 1) % 14 - 1) = S' (mk ((q - 1) / 14) ((q - 1) % 14 - 1)) ((q - 1) % 14 - 1) := by
        unfold mk
        split
        next h => exact (h1 _ (by omega)).1 _ h
        next h => rw [h2 _ (by omega)]
      rw [e]
  · rw [if_neg hq, if_neg hq]
theorem hp_row_set {S : St} {N : Nat → Nat → Int64} {X : St} {Y : Nat → Int64} {k j : Nat} {f : Nat → Nat} (hk : k < 4) (hj : j < 11) : hset (hp S N X Y) (mr k j) (.inl (0, mlen j, .inl (fun c => nI (f c)))) = hp (u3r S k j f) N X Y := by
  refine hp_at_set ?_ (fun q hq => ?_)
  · rw [hp_mr hk hj, u3r_s]
  · unfold hp
    have e1 : cfs (u3r S k j f) = cfs S := by unfold cfs; rw [u3r_oth S (by omega)]
    have e2 : tfs (u3r S k j f) = tfs S := by unfold tfs; rw [u3r_oth S (by omega)]
    have e3 : sfs (u3r S k j f) = sfs S := by funext t; unfold sfs; rw [u3r_oth S (by omega)]
    rw [e1, e2, e3, u3r_oth S (a := 4) (by omega), u3r_oth S (a := 5) (by omega)]
    by_cases h0 : q = 0
    · rw [if_pos h0, if_pos h0]
    rw [if_neg h0, if_neg h0]
    by_cases h1 : q < 57
    · rw [if_pos h1, if_pos h1]
      by_cases h2 : (q - 1) % 14 = 0
      · rw [if_pos h2, if_pos h2]
        have e : u3r S k j f ((q - 1) / 14) 13 = S ((q - 1) / 14) 13 := u3r_othj S (by omega)
        unfold mfs
        rw [e]
      · rw [if_neg h2, if_neg h2]
        have hne : ¬ ((q - 1) / 14 = k ∧ (q - 1) % 14 - 1 = j) := fun e => hq (by unfold mr; omega)
        have e : u3r S k j f (mk ((q - 1) / 14) ((q - 1) % 14 - 1)) ((q - 1) % 14 - 1) = S (mk ((q - 1) / 14) ((q - 1) % 14 - 1)) ((q - 1) % 14 - 1) := by
          by_cases hb : (q - 1) % 14 - 1 = j
          · have ha : mk ((q - 1) / 14) ((q - 1) % 14 - 1) ≠ k := by
              rw [hb]
              unfold mk
              rw [if_pos hj]
              exact fun e => hne ⟨e, hb⟩
            rw [u3r_oth S ha]
          · exact u3r_othj S hb
        rw [e]
    · rw [if_neg h1, if_neg h1]
/-! System.arraycopy of a whole row -/
theorem nat_ac : Cond.native arraycopyName ∈ tW := in_tW 473 (by decide +kernel) (by decide +kernel)
theorem sta_ac : Cond.static arraycopyName ∈ tW := in_tW 472 (by decide +kernel) (by decide +kernel)
theorem arrV_cong {c : ClassId} {n : Nat} {f g : Nat → Value} (h : ∀ i, i < n → f i = g i) : arrV c n f = arrV c n g := by
  unfold arrV
  congr 1
  apply Array.ext
  · simp
  · intro i h1 h2
    simp at h1
    simp [h i h1]
set_option maxHeartbeats 1000000 in
theorem go_acopy {d : Nat} {own : String} {cc : ByteArray} {nL : Nat} {ret : Option FieldType} {pc q : Nat} {lo : List (Option Value)} {st : List Value} {h : AH} {Q : Option Value → AH → Prop} {ix a b n : Nat} {f g : Nat → Int32}
    (hd : decode cc pc = .ok (.invokestatic ix, 3)) (hlk : Cond.methodLink own ix arraycopyName ∈ tW) (ha : a < nC) (hb : b < nC) (hca : h a = .inl (0, n, .inl f)) (hcb : h b = .inl (0, n, .inl g)) (hn : n < 2 ^ 31) (h1 : 1 ≤ d) (hst : (st.map fun v => v.category).sum ≤ 8) (hq : pc + 3 = q)
    (kk : Go d own cc nL ret q lo st (hset h b (.inl (0, n, .inl f))) Q) : Go d own cc nL ret pc lo (.int (nI n) :: .int (nI 0) :: .ref b :: .int (nI 0) :: .ref a :: st) h Q := by
  subst hq
  intro p l e s m args below meth c α cA D H locs ls C0 hP hS hl
  have ha2 := cW_at (α := α) (cA := cA) (h := h) ha
  have hb2 := cW_at (α := α) (cA := cA) (h := h) hb
  rw [hca] at ha2
  rw [hcb] at hb2
  have hts := C0.2.2.2.2.2.1
  refine va_copyi C0.1 C0.2.1 (by rw [C0.2.2.1, hl.1]) C0.2.2.2.2.1 (hts _ hlk) (hts _ nat_ac) (hts _ sta_ac) (hts _ ini_J10) C0.2.2.2.2.2.2.2.1 hP (cW_D C0.2.2.2.2.2.2.2.2.1) hS a b 0 0 (c0 := cA 0) (c1 := cA 0) (n0 := n) (n1 := n) (f := f) (g := g) (ty := .int) ha2 hb2 rfl rfl rfl (sp := nI 0) (dp := nI 0) (n := nI n) (by decide) (by decide) (nI_pos hn) (by rw [nI_clamp hn, nI_clamp (by decide)]; omega) (by rw [nI_clamp hn, nI_clamp (by decide)]; omega) (fun i _ => rfl) h1 ?_ hd (fun H1 locs1 hP1 hD1 hS1 => ?_)
  · rw [map_cat]
    have : nativeFrameWords "java/lang/System" "arraycopy" 5 + 11 ≤ 56 := by decide +kernel
    show _ ≤ 64 * d
    omega
  · rw [nI_clamp hn, nI_clamp (by decide)] at hP1
    refine kk p l e s m args below meth c α cA D H1 locs1 ls C0 ?_ hS1 hl
    rw [← cW_set hb]
    intro k z hz
    by_cases hkb : k = b
    · subst hkb
      have hlen : k < (cW α cA h).length := by rw [cW_len]; exact hb
      have h5 := hP1 k (α k, .inl (cA 0, n, .inl (va_cpy f g 0 0 n))) (by rw [List.getElem?_set, if_pos rfl, if_pos hlen])
      rw [List.getElem?_set, if_pos rfl, if_pos hlen] at hz
      cases hz
      have e : vp_cell (cA 0) (n, .inl (va_cpy f g 0 0 n)) = vp_cell (cA 0) (n, .inl f) := by
        rw [vp_cell_i, vp_cell_i]
        exact arrV_cong (fun i hi => by rw [pk_cpy_in (Nat.zero_le _) (by omega)]; simp)
      show H1[α k]? = some (vp_cell (cA 0) (n, .inl f))
      rw [← e]
      exact h5
    · have h5 := hP1 k z (by rw [List.getElem?_set, if_neg (fun e => hkb e.symm)] at hz ⊢; exact hz)
      exact h5
theorem go_mcopy {d : Nat} {own : String} {cc : ByteArray} {nL : Nat} {ret : Option FieldType} {pc q : Nat} {lo : List (Option Value)} {st : List Value} {Q : Option Value → AH → Prop} {S : St} {N : Nat → Nat → Int64} {X : St} {Y : Nat → Int64} {ix a b j n : Nat}
    (hd : decode cc pc = .ok (.invokestatic ix, 3)) (hlk : Cond.methodLink own ix arraycopyName ∈ tW) (ha : a < 4) (hb : b < 4) (hj : j < 11) (hn : mlen j = n) (h1 : 1 ≤ d) (hst : (st.map fun v => v.category).sum ≤ 8) (hq : pc + 3 = q)
    (kk : Go d own cc nL ret q lo st (hp (u3r S b j (S a j)) N X Y) Q) : Go d own cc nL ret pc lo (.int (nI n) :: .int (nI 0) :: .ref (mr b j) :: .int (nI 0) :: .ref (mr a j) :: st) (hp S N X Y) Q := by
  subst hn
  exact go_acopy hd hlk (mr_lt ha (by omega)) (mr_lt hb (by omega)) (hp_mr ha hj) (hp_mr hb hj) (mlen_lt j) h1 hst hq (by rw [hp_row_set hb hj]; exact kk)
theorem la_X0_64 : Cond.methodLink RX0 64 arraycopyName ∈ tW := in_tW 471 (by decide +kernel) (by decide +kernel)
theorem la_X3_253 : Cond.methodLink RX3 253 arraycopyName ∈ tW := in_tW 748 (by decide +kernel) (by decide +kernel)
