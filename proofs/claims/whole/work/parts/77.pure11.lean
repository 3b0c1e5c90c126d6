/-! the reference's tokens, purely -/
def TR (X : St) (T : Mk) : Prop := X 3 1 = T 0 ∧ X 3 4 1 = T 1 0 ∧ X 3 4 2 = T 1 1 ∧ X 3 4 3 = T 1 2 ∧ X 3 4 4 = T 1 3 ∧ T 1 4 = min 10000 (X 3 4 5) ∧ X 3 4 5 ≤ 99999
/-- the tape became T, the market M; kept, laid by, findings, sheets as they were -/
def Tx (X X' : St) (T M : Mk) : Prop := TR X' T ∧ X' 0 = M ∧ X' 1 = X 1 ∧ X' 2 = X 2 ∧ (∀ j, j ≠ 2 → j ≠ 3 → j ≠ 4 → X' 3 j = X 3 j) ∧ X' 3 4 0 = X 3 4 0
theorem Tx.tr {X X1 X2 : St} {T1 T2 M1 M2 : Mk} (h : Tx X X1 T1 M1) (g : Tx X1 X2 T2 M2) : Tx X X2 T2 M2 :=
  ⟨g.1, g.2.1, g.2.2.1.trans h.2.2.1, g.2.2.2.1.trans h.2.2.2.1, fun j a b c => (g.2.2.2.2.1 j a b c).trans (h.2.2.2.2.1 j a b c), g.2.2.2.2.2.trans h.2.2.2.2.2⟩
theorem Tx.tm {X X1 X2 : St} {T1 T2 M1 : Mk} (h : Tx X X1 T1 M1) (g : Tx X1 X2 T2 (X1 0)) : Tx X X2 T2 M1 := h.2.1 ▸ h.tr g
theorem Tx.rf {X : St} {T : Mk} (h : TR X T) : Tx X X T (X 0) := ⟨h, rfl, rfl, rfl, fun _ _ _ _ => rfl, rfl⟩
theorem Tx.xc {X X1 X2 : St} {T M M' : Mk} (h : Tx X X1 T M) (g : Xc X1 X2 M') : Tx X X2 T M' := by
  have e1 := g.2.2.2 1 (by decide) (by decide)
  have e4 := g.2.2.2 4 (by decide) (by decide)
  refine ⟨?_, g.1, g.2.1.trans h.2.2.1, g.2.2.1.trans h.2.2.2.1, fun j a b c => (g.2.2.2 j a b).trans (h.2.2.2.2.1 j a b c), ?_⟩
  · unfold TR
    rw [e1, e4]
    exact h.1
  · rw [e4]
    exact h.2.2.2.2.2
def Tq (X X' : St) (k s e v : Nat) : Prop := X' 0 = X 0 ∧ X' 1 = X 1 ∧ X' 2 = X 2 ∧ (∀ j, j ≠ 4 → X' 3 j = X 3 j) ∧ X' 3 4 0 = X 3 4 0 ∧ X' 3 4 1 = X 3 4 1 ∧ X' 3 4 2 = k ∧ X' 3 4 3 = s ∧ X' 3 4 4 = e ∧ X' 3 4 5 = v
theorem Tq.rf {X : St} : Tq X X (X 3 4 2) (X 3 4 3) (X 3 4 4) (X 3 4 5) := ⟨rfl, rfl, rfl, fun _ _ => rfl, rfl, rfl, rfl, rfl, rfl, rfl⟩
theorem Tq.k {X X' : St} {k s e v : Nat} (h : Tq X X' k s e v) (w : Nat) : Tq X (u3 X' 3 4 2 w) w s e v := by
  obtain ⟨a, b, c, d, e0, e1, e2, e3, e4, e5⟩ := h
  exact ⟨(u3_oth _ (by decide)).trans a, (u3_oth _ (by decide)).trans b, (u3_oth _ (by decide)).trans c, fun j hj => (u3_othj _ hj).trans (d j hj), (u3_ni _ (by decide)).trans e0, (u3_ni _ (by decide)).trans e1, u3_s _ _ _ _ _, (u3_ni _ (by decide)).trans e3, (u3_ni _ (by decide)).trans e4, (u3_ni _ (by decide)).trans e5⟩
theorem Tq.s {X X' : St} {k s e v : Nat} (h : Tq X X' k s e v) (w : Nat) : Tq X (u3 X' 3 4 3 w) k w e v := by
  obtain ⟨a, b, c, d, e0, e1, e2, e3, e4, e5⟩ := h
  exact ⟨(u3_oth _ (by decide)).trans a, (u3_oth _ (by decide)).trans b, (u3_oth _ (by decide)).trans c, fun j hj => (u3_othj _ hj).trans (d j hj), (u3_ni _ (by decide)).trans e0, (u3_ni _ (by decide)).trans e1, (u3_ni _ (by decide)).trans e2, u3_s _ _ _ _ _, (u3_ni _ (by decide)).trans e4, (u3_ni _ (by decide)).trans e5⟩
theorem Tq.e {X X' : St} {k s e v : Nat} (h : Tq X X' k s e v) (w : Nat) : Tq X (u3 X' 3 4 4 w) k s w v := by
  obtain ⟨a, b, c, d, e0, e1, e2, e3, e4, e5⟩ := h
  exact ⟨(u3_oth _ (by decide)).trans a, (u3_oth _ (by decide)).trans b, (u3_oth _ (by decide)).trans c, fun j hj => (u3_othj _ hj).trans (d j hj), (u3_ni _ (by decide)).trans e0, (u3_ni _ (by decide)).trans e1, (u3_ni _ (by decide)).trans e2, (u3_ni _ (by decide)).trans e3, u3_s _ _ _ _ _, (u3_ni _ (by decide)).trans e5⟩
theorem Tq.v {X X' : St} {k s e v : Nat} (h : Tq X X' k s e v) (w : Nat) : Tq X (u3 X' 3 4 5 w) k s e w := by
  obtain ⟨a, b, c, d, e0, e1, e2, e3, e4, e5⟩ := h
  exact ⟨(u3_oth _ (by decide)).trans a, (u3_oth _ (by decide)).trans b, (u3_oth _ (by decide)).trans c, fun j hj => (u3_othj _ hj).trans (d j hj), (u3_ni _ (by decide)).trans e0, (u3_ni _ (by decide)).trans e1, (u3_ni _ (by decide)).trans e2, (u3_ni _ (by decide)).trans e3, (u3_ni _ (by decide)).trans e4, u3_s _ _ _ _ _⟩
theorem Tq.x {X X' : St} {T : Mk} {s v : Nat} (h0 : X 3 1 = T 0) (hL : X 3 4 1 = T 1 0) (hs : s = sk (T 0) (T 1 0) 0 (T 1 3)) (h : Tq X X' (kd (X 3 1) (X 3 4 1) s) s (en (X 3 1) (X 3 4 1) s) v) (ha : am (X 3 1) (X 3 4 1) s = min 10000 v) (hv : v ≤ 99999) : Tx X X' (tkn T) (X 0) := by
  obtain ⟨a, b, c, d, e0, e1, e2, e3, e4, e5⟩ := h
  subst hs
  have hx := tk5_x T (kd (T 0) (T 1 0) (sk (T 0) (T 1 0) 0 (T 1 3))) (sk (T 0) (T 1 0) 0 (T 1 3)) (en (T 0) (T 1 0) (sk (T 0) (T 1 0) 0 (T 1 3))) (am (T 0) (T 1 0) (sk (T 0) (T 1 0) 0 (T 1 3)))
  refine ⟨⟨?_, ?_, ?_, ?_, ?_, ?_, by rw [e5]; exact hv⟩, a, b, c, fun j _ _ h4 => d j h4, e0⟩
  · rw [d 1 (by decide), h0, tkn_0]
  · rw [e1, hL, tkn_10]
  · rw [e2, h0, hL]; exact hx.2.2.1.symm
  · rw [e3]; exact hx.2.2.2.1.symm
  · rw [e4, h0, hL]; exact hx.2.2.2.2.1.symm
  · rw [e5, ← ha, h0, hL]; exact hx.2.2.2.2.2
theorem bt_ge {B : Nat → Nat} {L i : Nat} (hB : ∀ i, i < L → B i ≤ 255) : 0 ≤ bt B L i ↔ i < L := by
  by_cases h : i < L
  · have := hB i h
    rw [bt_y h]
    exact ⟨fun _ => h, fun _ => nI_pos' (by omega)⟩
  · rw [bt_n h]
    exact ⟨fun z => absurd z (by decide), fun z => absurd z h⟩
theorem bt_eq {B : Nat → Nat} {L i a : Nat} (hB : ∀ i, i < L → B i ≤ 255) (ha : a ≤ 255) : bt B L i = nI a ↔ i < L ∧ B i = a := by
  by_cases h : i < L
  · have := hB i h
    rw [bt_y h, nI_eq (by omega) (by omega)]
    exact ⟨fun z => ⟨h, z⟩, fun z => z.2⟩
  · rw [bt_n h]
    constructor
    · intro z
      exact absurd (show (0 : Int32) ≤ nI a from nI_pos' (by omega)) (by rw [← z]; decide)
    · intro z; exact absurd z.1 h
theorem nt_k {B : Nat → Nat} {L s : Nat} (hsL : s ≤ L) : (kd B L s = 1 → en B L s = sk B L 1 s ∧ am B L s = 0) ∧ (kd B L s = 2 → en B L s = sk B L 2 s ∧ am B L s = nm B L s 0) ∧ (kd B L s ≠ 1 → kd B L s ≠ 2 → en B L s = (if 2 < kd B L s then s + 1 else s) ∧ am B L s = 0) ∧ kd B L s ≤ 4 := by
  unfold kd en am
  by_cases h1 : L ≤ s
  · simp only [if_pos h1]
    refine ⟨by omega, by omega, fun _ _ => ⟨by simp, trivial⟩, by omega⟩
  · simp only [if_neg h1]
    by_cases h2 : cl 1 (B s) = true
    · simp only [if_pos h2]
      refine ⟨fun _ => ⟨(sk_y (by omega) h2).symm, trivial⟩, by omega, fun z => absurd rfl z, by omega⟩
    · simp only [if_neg h2]
      by_cases h3 : cl 2 (B s) = true
      · simp only [if_pos h3]
        refine ⟨by omega, fun _ => ⟨(sk_y (by omega) h3).symm, ?_⟩, fun _ z => absurd rfl z, by omega⟩
        rw [nm_y (by omega) h3]
        congr 1
        have := cl2_b h3
        omega
      · simp only [if_neg h3]
        by_cases h4 : B s = 59
        · simp only [if_pos h4]
          refine ⟨by omega, by omega, fun _ _ => ⟨by simp, trivial⟩, by omega⟩
        · simp only [if_neg h4]
          refine ⟨by omega, by omega, fun _ _ => ⟨by simp, trivial⟩, by omega⟩
/-- words -/
abbrev b3 (T : Mk) (i : Nat) (a b c : Int32) : Prop := bt (T 0) (T 1 0) (T 1 2 + i) = a ∧ bt (T 0) (T 1 0) (T 1 2 + i + 1) = b ∧ bt (T 0) (T 1 0) (T 1 2 + i + 2) = c
abbrev iw (T : Mk) (n : Nat) : Prop := T 1 1 = 1 ∧ T 1 3 - T 1 2 = n
theorem wd_bt {T : Mk} {j i : Nat} (hG : tpG T) (hj : j < nStr) (hl : T 1 3 - T 1 2 = sL j) (hi : i < sL j) : bt (T 0) (T 1 0) (T 1 2 + i) = nI (sN j i) ↔ T 0 (T 1 2 + i) = sN j i := by
  have h1 := hG.2.1
  have h2 := hG.2.2.1
  have h3 := sN_le hj hi
  rw [bt_eq hG.1.2 (by omega)]
  exact ⟨fun z => z.2, fun z => ⟨by omega, z⟩⟩
theorem wd_all {T : Mk} {j : Nat} (hG : tpG T) (hj : j < nStr) : wd T j ↔ iw T (sL j) ∧ ∀ i, i < sL j → bt (T 0) (T 1 0) (T 1 2 + i) = nI (sN j i) :=
  ⟨fun h => ⟨⟨h.1, h.2.1⟩, fun i hi => (wd_bt hG hj h.2.1 hi).mpr (h.2.2 i hi)⟩, fun h => ⟨h.1.1, h.1.2, fun i hi => (wd_bt hG hj h.1.2 hi).mp (h.2 i hi)⟩⟩
abbrev w4 (T : Mk) (a b c d : Int32) : Prop := iw T 4 ∧ b3 T 0 a b c ∧ bt (T 0) (T 1 0) (T 1 2 + 3) = d
abbrev w2 (T : Mk) (a b : Int32) : Prop := iw T 2 ∧ bt (T 0) (T 1 0) (T 1 2) = a ∧ bt (T 0) (T 1 0) (T 1 2 + 1) = b
theorem wd_4 {T : Mk} {j a b c d : Nat} (hG : tpG T) (hj : j < nStr) (hl : sL j = 4) (h0 : sN j 0 = a) (h1 : sN j 1 = b) (h2 : sN j 2 = c) (h3 : sN j 3 = d) : w4 T (nI a) (nI b) (nI c) (nI d) ↔ wd T j := by
  rw [wd_all hG hj, hl]
  subst h0; subst h1; subst h2; subst h3
  constructor
  · intro h
    refine ⟨h.1, fun i hi => ?_⟩
    match i, hi with
    | 0, _ => exact h.2.1.1
    | 1, _ => exact h.2.1.2.1
    | 2, _ => exact h.2.1.2.2
    | 3, _ => exact h.2.2
  · intro h
    exact ⟨h.1, ⟨h.2 0 (by decide), h.2 1 (by decide), h.2 2 (by decide)⟩, h.2 3 (by decide)⟩
theorem wd_3 {T : Mk} {j a b c : Nat} (hG : tpG T) (hj : j < nStr) (hl : sL j = 3) (h0 : sN j 0 = a) (h1 : sN j 1 = b) (h2 : sN j 2 = c) : (iw T 3 ∧ b3 T 0 (nI a) (nI b) (nI c)) ↔ wd T j := by
  rw [wd_all hG hj, hl]
  subst h0; subst h1; subst h2
  constructor
  · intro h
    refine ⟨h.1, fun i hi => ?_⟩
    match i, hi with
    | 0, _ => exact h.2.1
    | 1, _ => exact h.2.2.1
    | 2, _ => exact h.2.2.2
  · intro h
    exact ⟨h.1, h.2 0 (by decide), h.2 1 (by decide), h.2 2 (by decide)⟩
theorem wd_6 {T : Mk} {j a b c d e f : Nat} (hG : tpG T) (hj : j < nStr) (hl : sL j = 6) (h0 : sN j 0 = a) (h1 : sN j 1 = b) (h2 : sN j 2 = c) (h3 : sN j 3 = d) (h4 : sN j 4 = e) (h5 : sN j 5 = f) : (iw T 6 ∧ b3 T 0 (nI a) (nI b) (nI c) ∧ b3 T 3 (nI d) (nI e) (nI f)) ↔ wd T j := by
  rw [wd_all hG hj, hl]
  subst h0; subst h1; subst h2; subst h3; subst h4; subst h5
  constructor
  · intro h
    refine ⟨h.1, fun i hi => ?_⟩
    match i, hi with
    | 0, _ => exact h.2.1.1
    | 1, _ => exact h.2.1.2.1
    | 2, _ => exact h.2.1.2.2
    | 3, _ => exact h.2.2.1
    | 4, _ => exact h.2.2.2.1
    | 5, _ => exact h.2.2.2.2
  · intro h
    exact ⟨h.1, ⟨h.2 0 (by decide), h.2 1 (by decide), h.2 2 (by decide)⟩, h.2 3 (by decide), h.2 4 (by decide), h.2 5 (by decide)⟩
theorem wd_5p {T : Mk} {j a b c d e : Nat} (hG : tpG T) (hj : j < nStr) (hl : sL j = 5) (h0 : sN j 0 = a) (h1 : sN j 1 = b) (h2 : sN j 2 = c) (h3 : sN j 3 = d) (h4 : sN j 4 = e) : (iw T 5 ∧ b3 T 0 (nI a) (nI b) (nI c) ∧ b3 T 2 (nI c) (nI d) (nI e)) ↔ wd T j := by
  rw [wd_all hG hj, hl]
  subst h0; subst h1; subst h2; subst h3; subst h4
  constructor
  · intro h
    refine ⟨h.1, fun i hi => ?_⟩
    match i, hi with
    | 0, _ => exact h.2.1.1
    | 1, _ => exact h.2.1.2.1
    | 2, _ => exact h.2.1.2.2
    | 3, _ => exact h.2.2.2.1
    | 4, _ => exact h.2.2.2.2
  · intro h
    exact ⟨h.1, ⟨h.2 0 (by decide), h.2 1 (by decide), h.2 2 (by decide)⟩, h.2 2 (by decide), h.2 3 (by decide), h.2 4 (by decide)⟩
theorem wd_7 {T : Mk} {j a b c d e f g : Nat} (hG : tpG T) (hj : j < nStr) (hl : sL j = 7) (h0 : sN j 0 = a) (h1 : sN j 1 = b) (h2 : sN j 2 = c) (h3 : sN j 3 = d) (h4 : sN j 4 = e) (h5 : sN j 5 = f) (h6 : sN j 6 = g) : (iw T 7 ∧ b3 T 0 (nI a) (nI b) (nI c) ∧ b3 T 3 (nI d) (nI e) (nI f) ∧ bt (T 0) (T 1 0) (T 1 2 + 6) = nI g) ↔ wd T j := by
  rw [wd_all hG hj, hl]
  subst h0; subst h1; subst h2; subst h3; subst h4; subst h5; subst h6
  constructor
  · intro h
    refine ⟨h.1, fun i hi => ?_⟩
    match i, hi with
    | 0, _ => exact h.2.1.1
    | 1, _ => exact h.2.1.2.1
    | 2, _ => exact h.2.1.2.2
    | 3, _ => exact h.2.2.1.1
    | 4, _ => exact h.2.2.1.2.1
    | 5, _ => exact h.2.2.1.2.2
    | 6, _ => exact h.2.2.2
  · intro h
    exact ⟨h.1, ⟨h.2 0 (by decide), h.2 1 (by decide), h.2 2 (by decide)⟩, ⟨h.2 3 (by decide), h.2 4 (by decide), h.2 5 (by decide)⟩, h.2 6 (by decide)⟩
theorem wd_2 {T : Mk} {j a b : Nat} (hG : tpG T) (hj : j < nStr) (hl : sL j = 2) (h0 : sN j 0 = a) (h1 : sN j 1 = b) : w2 T (nI a) (nI b) ↔ wd T j := by
  rw [wd_all hG hj, hl]
  subst h0; subst h1
  constructor
  · intro h
    refine ⟨h.1, fun i hi => ?_⟩
    match i, hi with
    | 0, _ => exact h.2.1
    | 1, _ => exact h.2.2
  · intro h
    exact ⟨h.1, h.2 0 (by decide), h.2 1 (by decide)⟩
theorem addC_s (M : Mk) (k o z s : Nat) : u2 (addC M k o z 0) 3 (M 13 0) s = addC M k o z s := by
  funext b c
  unfold addC u2
  by_cases h : b = 3 ∧ c = M 13 0
  · rw [if_pos h, if_neg (by omega), if_pos h]
  · rw [if_neg h]
    by_cases h1 : b = 13 ∧ c = 0
    · rw [if_pos h1, if_pos h1]
    · rw [if_neg h1, if_neg h1, if_neg h, if_neg h]
