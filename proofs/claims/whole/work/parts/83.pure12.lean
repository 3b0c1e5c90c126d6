/-! months with and without payments -/
theorem chs_snd {M : Mk} {o v c : Nat} (hc : c < M 13 0) (hb : bit (chs M o v) c = 1) : snd M o c := by
  unfold chs at hb
  by_cases h : purse M o < v
  · rw [if_pos h] at hb
    unfold sets at hb
    rw [bit_setS] at hb
    by_cases h2 : c < M 13 0 ∧ decide (snd M o c) = true
    · exact of_decide_eq_true h2.2
    · rw [if_neg h2] at hb
      exact absurd hb (by decide)
  · rw [if_neg h] at hb
    by_cases h2 : ∃ s, IsB (vl M o) (M 13 0) v s
    · rw [dif_pos h2] at hb
      exact vl_snd ((Classical.choose_spec h2).own hb)
    · rw [dif_neg h2] at hb
      unfold bit at hb
      rw [Nat.zero_div] at hb
      exact absurd hb (by decide)
def Eg (A B : Mk) : Prop := A 0 = B 0 ∧ A 2 = B 2 ∧ A 3 = B 3 ∧ A 4 = B 4 ∧ A 5 = B 5 ∧ A 13 0 = B 13 0 ∧ A 13 2 = B 13 2 ∧ ∀ c, A 3 c = 2 → A 1 c = B 1 c
theorem Eg.rf (M : Mk) : Eg M M := ⟨rfl, rfl, rfl, rfl, rfl, rfl, rfl, fun _ _ => rfl⟩
theorem age1_rows (M : Mk) : age1 M 0 = M 0 ∧ age1 M 1 = M 1 ∧ age1 M 4 = M 4 ∧ age1 M 5 = M 5 ∧ (age1 M 2 = fun c => if c < M 13 0 then agSz M c else M 2 c) ∧ (age1 M 3 = fun c => if c < M 13 0 then agSt M c else M 3 c) := by
  have key : ∀ j, j ≠ 13 → age1 M j = agUp M (M 13 0) j := fun j hj => by
    funext c
    unfold age1 u2
    rw [if_neg (fun z => hj z.1)]
  have k2 : ∀ j, j ≠ 2 → j ≠ 3 → agUp M (M 13 0) j = M j := fun j h2 h3 => by
    funext c
    unfold agUp
    rw [if_neg (fun z => h2 z.1), if_neg (fun z => h3 z.1)]
  refine ⟨?_, ?_, ?_, ?_, ?_, ?_⟩
  · rw [key 0 (by decide), k2 0 (by decide) (by decide)]
  · rw [key 1 (by decide), k2 1 (by decide) (by decide)]
  · rw [key 4 (by decide), k2 4 (by decide) (by decide)]
  · rw [key 5 (by decide), k2 5 (by decide) (by decide)]
  · rw [key 2 (by decide)]
    funext c
    unfold agUp
    by_cases h : c < M 13 0
    · rw [if_pos ⟨rfl, h⟩, if_pos h]
    · rw [if_neg (fun z => h z.2), if_neg (by omega), if_neg h]
  · rw [key 3 (by decide)]
    funext c
    unfold agUp
    by_cases h : c < M 13 0
    · rw [if_neg (by omega), if_pos ⟨rfl, h⟩, if_pos h]
    · rw [if_neg (by omega), if_neg (fun z => h z.2), if_neg h]
theorem Eg.sea {A B : Mk} (h : Eg A B) : sea A = sea B := by
  show A 13 2 % 12 = B 13 2 % 12
  rw [h.2.2.2.2.2.2.1]
theorem Eg.sz {A B : Mk} (h : Eg A B) (c : Nat) : agSz A c = agSz B c := by
  have hs := h.sea
  obtain ⟨h0, h2, h3, h4, h5, h13, h132, h1⟩ := h
  unfold agSz
  rw [hs, ← h0, ← h2, ← h3, ← h4]
  by_cases hc : A 3 c = 0
  · rw [if_pos hc, if_pos hc]
  · rw [if_neg hc, if_neg hc]
    by_cases hp : A 3 c = 2
    · rw [h1 c hp]
    · rw [if_neg (fun z => hp z.1), if_neg (fun z => hp z.1)]
theorem Eg.stt {A B : Mk} (h : Eg A B) (c : Nat) : agSt A c = agSt B c := by
  have hs := h.sea
  have hz := h.sz c
  obtain ⟨h0, h2, h3, h4, h5, h13, h132, h1⟩ := h
  unfold agSt besd
  rw [hs, hz, ← h0, ← h3, ← h13]
theorem agSt_2 {M : Mk} {c : Nat} (h : agSt M c = 2) : M 3 c = 2 := by
  unfold agSt at h
  split at h
  · split at h <;> omega
  · split at h
    · split at h <;> omega
    · exact h
theorem Eg.age {A B : Mk} (h : Eg A B) : Eg (age1 A) (age1 B) := by
  obtain ⟨a0, a1, a4, a5, a2, a3⟩ := age1_rows A
  obtain ⟨b0, b1, b4, b5, b2, b3⟩ := age1_rows B
  have ha := age1_13 A
  have hb := age1_13 B
  have hz := h.sz
  have ht := h.stt
  obtain ⟨h0, h2, h3, h4, h5, h13, h132, h1⟩ := h
  refine ⟨by rw [a0, b0, h0], ?_, ?_, by rw [a4, b4, h4], by rw [a5, b5, h5], by rw [ha.1, hb.1, h13], by rw [ha.2.2.1, hb.2.2.1, h132], fun c hc => ?_⟩
  · rw [a2, b2, h13, h2]
    funext c
    rw [hz]
  · rw [a3, b3, h13, h3]
    funext c
    rw [ht]
  · rw [a1, b1]
    refine h1 c ?_
    rw [a3] at hc
    dsimp only at hc
    split at hc
    · exact agSt_2 hc
    · exact hc
theorem Eg.pay {A B : Mk} (h : Eg A B) (i : Nat) : Eg A (payI B i) := by
  obtain ⟨h0, h2, h3, h4, h5, h13, h132, h1⟩ := h
  refine ⟨?_, ?_, ?_, ?_, ?_, ?_, ?_, fun c hc => ?_⟩
  · rw [h0]; funext c; exact (payI_at (by omega)).symm
  · rw [h2]; funext c; exact (payI_at (by omega)).symm
  · rw [h3]; funext c; exact (payI_at (by omega)).symm
  · rw [h4]; funext c; exact (payI_at (by omega)).symm
  · rw [h5]; funext c; exact (payI_at (by omega)).symm
  · rw [h13]; exact (payI_at (by omega)).symm
  · rw [h132]; exact (payI_at (by omega)).symm
  · rw [h1 c hc]
    unfold payI
    split
    · rw [u2_nj _ (by decide)]
      unfold payM
      split
      next hb =>
        have := (chs_snd hb.2.1 hb.2.2).1
        rw [← h3, hc] at this
        exact absurd this (by decide)
      next => rw [if_neg (by omega)]
    · rfl
theorem Eg.payn {A B : Mk} (h : Eg A B) (n : Nat) : Eg A (payN B n) := by
  induction n with
  | zero => exact h
  | succ n ih => exact ih.pay n
theorem Eg.mon (M : Mk) (n : Nat) : Eg (agN M n) (monN M n) := by
  induction n with
  | zero => exact Eg.rf M
  | succ n ih => exact (Eg.age ih).payn _
theorem ag_wrt (M : Mk) (n c : Nat) : wrt (agN M n) c = wrt (monN M n) c := by
  have h := Eg.mon M n
  have hs := h.sea
  unfold wrt
  rw [hs, h.2.1, h.2.2.1, h.2.2.2.2.1]
theorem ag_many (M : Mk) (n s : Nat) : many (agN M n) s = many (monN M n) s := by
  have h := Eg.mon M n
  unfold many
  rw [h.2.2.2.2.2.1, h.2.2.1]
theorem ag_2 (M : Mk) (n c : Nat) : agN M n 2 c = monN M n 2 c := by rw [(Eg.mon M n).2.1]
theorem ag_3 (M : Mk) (n c : Nat) : agN M n 3 c = monN M n 3 c := by rw [(Eg.mon M n).2.2.1]
theorem u2_same (M : Mk) {j i v : Nat} (h : M j i = v) : u2 M j i v = M := by
  funext b c
  unfold u2
  by_cases e : b = j ∧ c = i
  · rw [if_pos e, e.1, e.2, h]
  · rw [if_neg e]
/-! the tax month -/
theorem sm4 (f g h k : Nat → Nat) : ∀ n, sm f n + sm g n + sm h n + sm k n = sm (fun c => f c + g c + h c + k c) n := by
  intro n
  induction n with
  | zero => rfl
  | succ n ih => rw [sm_s, sm_s, sm_s, sm_s, sm_s, ← ih]; omega
theorem bit_4095 {c : Nat} (h : c < 12) : bit 4095 c = 1 := (by decide : ∀ c, c < 12 → bit 4095 c = 1) c h
theorem wset_all {M : Mk} (hw : WF M) : wset M 4095 = purse M 0 + purse M 1 + purse M 2 + purse M 3 := by
  unfold wset purse
  rw [sm4]
  refine sm_cong (fun c hc => ?_)
  have h1 := hw.co
  have h3 := hw.ow c
  rw [if_pos (bit_4095 (by omega))]
  unfold snd
  by_cases h0 : M 3 c = 0
  · rcases (show M 1 c = 0 ∨ M 1 c = 1 ∨ M 1 c = 2 ∨ M 1 c = 3 by omega) with e | e | e | e <;> simp [h0, e]
  · have : wrt M c = 0 := if_neg h0
    simp [h0, this]
theorem rch_cong {f g : Nat → Nat} : ∀ {n : Nat}, (∀ i, i ≤ n → f i = g i) → rch f n = rch g n := by
  intro n
  induction n with
  | zero => intro _; rfl
  | succ n ih =>
    intro h
    unfold rch
    rw [ih (fun i hi => h i (by omega)), h (n + 1) (Nat.le_refl _), h (rch g n) (Nat.le_trans (rch_le g n) (by omega))]
theorem tm_all {M : Mk} (hw : WF M) (hm : M 13 2 + 12 ≤ 10000) : rch (fun t => wset (monN (txd (monN M t) 4) (12 - t)) 4095) 11 = rch (tmV M) 11 := by
  refine rch_cong (fun t ht => ?_)
  have h1 := wf_monN hw (n := t) (by omega)
  have h2 := wf_txd h1.1 4
  have h3 : txd (monN M t) 4 13 2 = monN M t 13 2 := txd_at (by decide)
  have h4 := wf_monN h2 (n := 12 - t) (by rw [h3, h1.2]; omega)
  exact wset_all h4.1
/-! what is kept -/
theorem wf_addC {M : Mk} (h : WF M) {k o z s : Nat} (hn : M 13 0 < 12) (hk : k ≤ 5) (ho : o ≤ 3) (hz : z ≤ 99) (hs : s ≤ 2) : WF (addC M k o z s) := by
  unfold addC
  refine ((((h.upd ?_).upd ?_).upd ?_).upd ?_).upd ?_ <;> omega
theorem wf_addL {M : Mk} (h : WF M) {f t v n : Nat} (hn : M 13 1 < 8) (hf : f ≤ 3) (ht : t ≤ 3) (hv : v ≤ 9999) (hn2 : n ≤ 120) : WF (addL M f t v n) := by
  have hm := h.mo
  unfold addL
  refine (((((h.upd ?_).upd ?_).upd ?_).upd ?_).upd ?_).upd ?_ <;> omega
theorem wl_addC {M : Mk} (h : WL M) (k o z s : Nat) : WL (addC M k o z s) := by
  intro i hi
  exact h i hi
theorem wl_addL {M : Mk} (h : WL M) {f t v n : Nat} (hv : 1 ≤ v) : WL (addL M f t v n) := by
  intro i hi
  have hi2 : i < M 13 1 + 1 := hi
  by_cases e : i = M 13 1
  · subst e
    have : addL M f t v n 8 (M 13 1) = v := by simp [addL, u2]
    rw [this]; exact hv
  · have : addL M f t v n 8 i = M 8 i := by simp [addL, u2, e]
    rw [this]; exact h i (by omega)
theorem wl_pay {M : Mk} (h : WL M) (f t v : Nat) : WL (payM M f t v) := by
  intro i hi
  rw [payM_at (by omega)] at hi ⊢
  exact h i hi
theorem wl_layM {M : Mk} (h : WL M) (f : Nat → Int64) (n : Nat) : WL (layM M f n) := by
  intro i hi
  have e1 : layM M f n 13 1 = M 13 1 := by unfold layM; rw [if_neg (by omega)]
  have e2 : layM M f n 8 i = M 8 i := by unfold layM; rw [if_neg (by omega)]
  rw [e2]
  exact h i (e1 ▸ hi)
def WW (M : Mk) : Prop := WF M ∧ WL M
theorem pitem_W {T M T' M' : Mk} {b : Bool} (h : WW M) (e : pitem T M = (b, T', M')) : WW M' := by
  unfold pitem at e
  split at e
  next hk =>
    split at e
    next hc =>
      unfold pcoin at e
      split at e
      · cases e; exact h
      split at e
      · cases e; exact h
      next n2 =>
      split at e
      · cases e; exact h
      split at e
      · cases e; exact h
      next n4 =>
      have n2 := (Decidable.not_not.mp n2).2.2
      have n4 := (Decidable.not_not.mp n4).2.2
      split at e
      · cases e; exact ⟨wf_addC h.1 hc (by omega) n2 n4 (by omega), wl_addC h.2 _ _ _ _⟩
      split at e
      · cases e; exact ⟨wf_addC h.1 hc (by omega) n2 n4 (by omega), wl_addC h.2 _ _ _ _⟩
      · cases e; exact ⟨wf_addC h.1 hc (by omega) n2 n4 (by omega), wl_addC h.2 _ _ _ _⟩
    next => cases e; exact h
  next =>
    split at e
    · unfold ptwo at e
      split at e
      · cases e; exact h
      split at e
      · cases e; exact h
      next n2 =>
      have n2 := (Decidable.not_not.mp n2).2.2
      cases e
      exact ⟨h.1.upd (by omega), wl_u2 h.2 (by decide) (by decide)⟩
    split at e
    · unfold ptwo at e
      split at e
      · cases e; exact h
      split at e
      · cases e; exact h
      next n2 =>
      have n2 := (Decidable.not_not.mp n2).2.2
      cases e
      exact ⟨h.1.upd (by omega), wl_u2 h.2 (by decide) (by decide)⟩
    split at e
    next hl =>
      unfold ploan at e
      split at e
      · cases e; exact h
      next n1 =>
      split at e
      · cases e; exact h
      split at e
      · cases e; exact h
      split at e
      · cases e; exact h
      next n3 =>
      split at e
      · cases e; exact h
      next n4 =>
      split at e
      · cases e; exact h
      split at e
      · cases e; exact h
      next n6 =>
      have n1 := (Decidable.not_not.mp n1).2.2
      have n3 := (Decidable.not_not.mp n3).2.2
      have n4 := (Decidable.not_not.mp n4).2
      have n6 := (Decidable.not_not.mp n6).2.2
      cases e
      exact ⟨wf_addL h.1 hl.2 n1 n3 n4.2 n6, wl_addL h.2 n4.1⟩
    next => cases e; exact h
theorem pitems_W : ∀ (f n : Nat) (T M : Mk) (k : Nat) (M' : Mk), WW M → pitems f n T M = (.inl k, M') → WW M' := by
  intro f
  induction f with
  | zero => intro n T M k M' h e; unfold pitems at e; cases e
  | succ f ih =>
    intro n T M k M' h e
    unfold pitems at e
    rcases he : pitem T M with ⟨b, T2, M2⟩
    have h2 := pitem_W h he
    rw [he] at e
    simp only at e
    split at e
    · cases e
    split at e
    · cases e; exact h2
    split at e
    · cases e
    · exact ih _ _ _ _ _ h2 e
