/-! the reference's search of sets -/
theorem vl_alt (M : Mk) (o c : Nat) : vl M o c = if M 1 c = o then wrt M c else 0 := by
  unfold vl wrt
  by_cases h1 : M 1 c = o
  · by_cases h3 : M 3 c = 0
    · rw [if_pos ⟨h3, h1⟩, if_pos h1]
    · rw [if_neg (fun z => h3 z.1), if_pos h1, if_neg h3]
  · rw [if_neg (fun z => h1 z.2), if_neg h1]
theorem bv_not (x a : BitVec 32) : x &&& (a ^^^ BitVec.allOnes 32) = 0#32 ↔ x &&& a = x := by
  constructor
  · intro h
    apply BitVec.eq_of_getLsbD_eq
    intro i hi
    have h2 := congrArg (fun v => v.getLsbD i) h
    simp only [BitVec.getLsbD_and, BitVec.getLsbD_xor, BitVec.getLsbD_allOnes, BitVec.getLsbD_zero, hi, decide_true] at h2
    rw [BitVec.getLsbD_and]
    revert h2
    cases x.getLsbD i <;> cases a.getLsbD i <;> decide
  · intro h
    apply BitVec.eq_of_getLsbD_eq
    intro i hi
    have h2 := congrArg (fun v => v.getLsbD i) h
    simp only [BitVec.getLsbD_and] at h2
    simp only [BitVec.getLsbD_and, BitVec.getLsbD_xor, BitVec.getLsbD_allOnes, BitVec.getLsbD_zero, hi, decide_true]
    revert h2
    cases x.getLsbD i <;> cases a.getLsbD i <;> decide
theorem m_sub {t a : Nat} (ht : t < 4096) (ha : a < 4096) : (nI t &&& (nI a ^^^ -1)) = 0 ↔ sub t a := by
  have e1 : (-1 : Int32).toBitVec = BitVec.allOnes 32 := by decide
  have h1 : (nI t &&& (nI a ^^^ -1)) = 0 ↔ (nI t).toBitVec &&& ((nI a).toBitVec ^^^ BitVec.allOnes 32) = 0#32 := by
    rw [← Int32.toBitVec_inj, Int32.toBitVec_and, Int32.toBitVec_xor, e1]
    rfl
  rw [h1, bv_not]
  have h2 : (nI t).toBitVec &&& (nI a).toBitVec = (nI t).toBitVec ↔ nI t &&& nI a = nI t := by
    rw [← Int32.toBitVec_inj, Int32.toBitVec_and]
  rw [h2, nI_and]
  exact nI_eq (Nat.lt_of_le_of_lt Nat.and_le_left (by omega)) (by omega)
theorem bits0 : ∀ (n t : Nat), t < 2 ^ n → (∀ d, d < n → bit t d = 0) → t = 0 := by
  intro n
  induction n with
  | zero => intro t h _; simpa using h
  | succ n ih =>
    intro t h hb
    have h0 := hb 0 (by omega)
    have e0 : bit t 0 = t % 2 := by unfold bit; simp
    have h2 := ih (t / 2) (by rw [Nat.pow_succ] at h; omega) (fun d hd => by rw [bit_half]; exact hb (d + 1) (by omega))
    omega
theorem land_pred : ∀ (c t : Nat), bit t c = 1 → (∀ d, d < c → bit t d = 0) → t &&& (t - 1) = t - 2 ^ c := by
  intro c
  induction c with
  | zero =>
    intro t h _
    have e0 : bit t 0 = t % 2 := by unfold bit; simp
    rw [land_eq, show (t - 1) / 2 = t / 2 by omega, Nat.and_self, Nat.pow_zero]
    refine ⟨by omega, ?_⟩
    rw [show t % 2 = 1 by omega, show (t - 1) % 2 = 0 by omega]
  | succ c ih =>
    intro t h hb
    have e0 : bit t 0 = t % 2 := by unfold bit; simp
    have h0 := hb 0 (by omega)
    have hc : bit (t / 2) c = 1 := by rw [bit_half]; exact h
    have hl : 2 ^ c ≤ t / 2 := by
      rcases Nat.lt_or_ge (t / 2) (2 ^ c) with z | z
      · rw [bit_big z] at hc; omega
      · exact z
    have hp := Nat.two_pow_pos c
    rw [land_eq, show (t - 1) / 2 = t / 2 - 1 by omega, ih (t / 2) hc (fun d hd => by rw [bit_half]; exact hb (d + 1) (by omega)), Nat.pow_succ]
    refine ⟨by omega, ?_⟩
    rw [show t % 2 = 0 by omega, Nat.zero_mul]
    omega
theorem sm_one {f g : Nat → Nat} {c0 v : Nat} : ∀ {n : Nat}, c0 < n → (∀ c, c < n → c ≠ c0 → f c = g c) → f c0 = v → g c0 = 0 → sm f n = sm g n + v := by
  intro n
  induction n with
  | zero => intro h; omega
  | succ n ih =>
    intro h hfg hf hg
    rw [sm_s, sm_s]
    by_cases e : c0 = n
    · subst e
      rw [sm_cong (f := f) (g := g) (fun c hc => hfg c (by omega) (by omega)), hf, hg]
      omega
    · rw [ih (by omega) (fun c hc => hfg c (by omega)) hf hg, hfg n (by omega) (fun z => e z.symm)]
      omega
theorem wset_low {M : Mk} {t c : Nat} (ht : t < 2 ^ M 13 0) (hb : bit t c = 1) : wset M t = wset M (t - 2 ^ c) + wrt M c := by
  obtain ⟨h1, h2, h3⟩ := bit_clear ht hb
  unfold wset
  refine sm_one h2 (fun i _ hne => by rw [h3 i, if_neg hne]) (by rw [if_pos hb]) ?_
  rw [h3 c, if_pos rfl]
  rfl
theorem wset_z (M : Mk) : wset M 0 = 0 := by
  unfold wset
  have : ∀ n, sm (fun c => if bit 0 c = 1 then wrt M c else 0) n = 0 := by
    intro n
    induction n with
    | zero => rfl
    | succ n ih => rw [sm_s, ih]; unfold bit; simp
  exact this _
def key (M : Mk) (s : Nat) : Nat := wset M s * 4096 + s
/-- the best set below t -/
def BI (M : Mk) (A v t : Nat) (ob : Option Nat) : Prop := match ob with
  | none => ∀ u, u < t → sub u A → ¬ v ≤ wset M u
  | some b => b < t ∧ sub b A ∧ v ≤ wset M b ∧ ∀ u, u < t → sub u A → v ≤ wset M u → key M b ≤ key M u
def bO (ob : Option Nat) : Int32 := match ob with
  | none => -1
  | some b => nI b
theorem BI.skip {M : Mk} {A v t : Nat} {ob : Option Nat} (h : BI M A v t ob) (hn : ¬ sub t A ∨ ¬ v ≤ wset M t) : BI M A v (t + 1) ob := by
  cases ob with
  | none =>
    intro u hu hs hv
    rcases Nat.lt_or_ge u t with z | z
    · exact h u z hs hv
    · obtain rfl : u = t := by omega
      rcases hn with a | a
      · exact a hs
      · exact a hv
  | some b =>
    refine ⟨by have := h.1; omega, h.2.1, h.2.2.1, fun u hu hs hv => ?_⟩
    rcases Nat.lt_or_ge u t with z | z
    · exact h.2.2.2 u z hs hv
    · obtain rfl : u = t := by omega
      rcases hn with a | a
      · exact absurd hs a
      · exact absurd hv a
theorem BI.keep {M : Mk} {A v t b : Nat} (h : BI M A v t (some b)) (hle : wset M b ≤ wset M t) : BI M A v (t + 1) (some b) := by
  refine ⟨by have := h.1; omega, h.2.1, h.2.2.1, fun u hu hs hv => ?_⟩
  rcases Nat.lt_or_ge u t with z | z
  · exact h.2.2.2 u z hs hv
  · obtain rfl : u = t := by omega
    have := h.1
    unfold key
    omega
theorem BI.first {M : Mk} {A v t : Nat} (h : BI M A v t none) (hs : sub t A) (hv : v ≤ wset M t) : BI M A v (t + 1) (some t) := by
  refine ⟨by omega, hs, hv, fun u hu hs2 hv2 => ?_⟩
  rcases Nat.lt_or_ge u t with z | z
  · exact absurd hv2 (h u z hs2)
  · obtain rfl : u = t := by omega
    exact Nat.le_refl _
theorem BI.less {M : Mk} {A v t b : Nat} (h : BI M A v t (some b)) (ht : t < 4096) (hs : sub t A) (hv : v ≤ wset M t) (hl : wset M t < wset M b) : BI M A v (t + 1) (some t) := by
  refine ⟨by omega, hs, hv, fun u hu hs2 hv2 => ?_⟩
  rcases Nat.lt_or_ge u t with z | z
  · have h1 := h.2.2.2 u z hs2 hv2
    have h2 := h.1
    clear h
    unfold key at h1 ⊢
    generalize wset M t = p at *
    generalize wset M b = q at *
    generalize wset M u = r at *
    have h3 : (p + 1) * 4096 ≤ q * 4096 := Nat.mul_le_mul_right _ hl
    rw [Nat.add_mul] at h3
    exact Nat.le_trans (Nat.le_trans (Nat.add_le_add_left (Nat.le_of_lt (Nat.lt_of_lt_of_eq ht (Nat.one_mul 4096).symm)) _) h3) (Nat.le_trans (Nat.le_add_right _ _) h1)
  · obtain rfl : u = t := by omega
    exact Nat.le_refl _
theorem sub_bit {s a c : Nat} (h : sub s a) (hb : bit s c = 1) : bit a c = 1 := by
  rw [bit_tb] at hb ⊢
  have h2 : (s &&& a).testBit c = s.testBit c := by rw [show s &&& a = s from h]
  rw [Nat.testBit_and, hb] at h2
  simpa using h2
theorem sets_snd {M : Mk} {o s c : Nat} (h : sub s (sets M o)) (hb : bit s c = 1) : snd M o c := by
  have h2 := sub_bit h hb
  unfold sets at h2
  rw [bit_setS] at h2
  by_cases z : c < M 13 0 ∧ decide (snd M o c) = true
  · exact of_decide_eq_true z.2
  · rw [if_neg z] at h2; omega
theorem wset_sub {M : Mk} {o s : Nat} (h : sub s (sets M o)) : wset M s = wv (vl M o) (M 13 0) s := wset_wv rfl (fun _ _ hb => sets_snd h hb)
theorem BI.chs {M : Mk} {o v : Nat} {ob : Option Nat} (hw : WF M) (hv : 1 ≤ v) (h : BI M (sets M o) v (sets M o + 1) ob) :
    chs M o v = ob.getD (sets M o) ∧ (purse M o < v ∨ ∃ s, IsB (vl M o) (M 13 0) v s) ∧ chs M o v ≤ sets M o ∧ sub (chs M o v) (sets M o) := by
  have hA : sets M o < 2 ^ M 13 0 := setS_lt _ _
  cases ob with
  | none =>
    have h1 := h (sets M o) (by omega) (sub_rf _)
    rw [wset_purse] at h1
    have e := chs_lo (M := M) (o := o) (v := v) (by omega)
    exact ⟨e, Or.inl (by omega), by rw [e]; exact Nat.le_refl _, by rw [e]; exact sub_rf _⟩
  | some b =>
    obtain ⟨h1, h2, h3, h4⟩ := h
    have hle := sub_le h2
    have hB : IsB (vl M o) (M 13 0) v b := by
      refine ⟨by omega, by rw [← wset_sub h2]; exact h3, fun y hy hvy => ?_⟩
      have hs2 : sub (y &&& sets M o) (sets M o) := by
        show (y &&& sets M o) &&& sets M o = y &&& sets M o
        rw [Nat.and_assoc, Nat.and_self]
      have hwy : wv (vl M o) (M 13 0) (y &&& sets M o) = wv (vl M o) (M 13 0) y := by
        refine sm_cong (fun c hc => ?_)
        by_cases hb : bit y c = 1
        · by_cases ha : bit (sets M o) c = 1
          · have : bit (y &&& sets M o) c = 1 := by
              rw [bit_tb] at *
              rw [Nat.testBit_and, hb, ha]
              rfl
            rw [if_pos this, if_pos hb]
          · have h0 : vl M o c = 0 := by
              refine Decidable.byContradiction fun z => ha ?_
              unfold sets
              rw [bit_setS, if_pos ⟨hc, decide_eq_true (vl_snd z)⟩]
            rw [h0]
            simp
        · have : ¬ bit (y &&& sets M o) c = 1 := by
            rw [bit_tb] at *
            rw [Nat.testBit_and]
            simp [hb]
          rw [if_neg this, if_neg hb]
      have h5 := h4 (y &&& sets M o) (Nat.lt_succ_of_le Nat.and_le_right) hs2 (by rw [wset_sub hs2, hwy]; exact hvy)
      unfold key at h5
      rw [wset_sub h2, wset_sub hs2, hwy] at h5
      have h6 : y &&& sets M o ≤ y := Nat.and_le_left
      omega
    have hp : ¬ purse M o < v := by
      have : wset M b ≤ purse M o := by rw [wset_sub h2]; exact wv_mono _ _ _
      omega
    have e := chs_hi hw hp hB
    exact ⟨e, Or.inr ⟨b, hB⟩, by rw [e]; exact hle, by rw [e]; exact h2⟩
