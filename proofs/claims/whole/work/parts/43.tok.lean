/-! the tape's tokens and items, purely -/
def cl (k b : Nat) : Bool := match k with
  | 0 => b == 32
  | 1 => decide (97 ≤ b ∧ b ≤ 122)
  | _ => decide (48 ≤ b ∧ b ≤ 57)
def skF (B : Nat → Nat) (L k : Nat) : Nat → Nat → Nat
  | 0, e => e
  | f + 1, e => if e < L ∧ cl k (B e) = true then skF B L k f (e + 1) else e
def sk (B : Nat → Nat) (L k e : Nat) : Nat := skF B L k (L - e) e
theorem sk_y {B : Nat → Nat} {L k e : Nat} (h : e < L) (hc : cl k (B e) = true) : sk B L k e = sk B L k (e + 1) := by
  unfold sk
  rw [show L - e = (L - (e + 1)) + 1 by omega]
  show (if e < L ∧ cl k (B e) = true then skF B L k (L - (e + 1)) (e + 1) else e) = _
  rw [if_pos ⟨h, hc⟩]
theorem sk_n {B : Nat → Nat} {L k e : Nat} (h : ¬ (e < L ∧ cl k (B e) = true)) : sk B L k e = e := by
  unfold sk
  cases hf : L - e with
  | zero => rfl
  | succ f =>
    show (if e < L ∧ cl k (B e) = true then skF B L k f (e + 1) else e) = e
    rw [if_neg h]
theorem skF_le (B : Nat → Nat) (L k : Nat) : ∀ f e, e ≤ L → e ≤ skF B L k f e ∧ skF B L k f e ≤ L := by
  intro f
  induction f with
  | zero => intro e he; exact ⟨Nat.le_refl _, he⟩
  | succ f ih =>
    intro e he
    show e ≤ (if e < L ∧ cl k (B e) = true then skF B L k f (e + 1) else e) ∧ (if e < L ∧ cl k (B e) = true then skF B L k f (e + 1) else e) ≤ L
    split
    · rename_i h
      have := ih (e + 1) (by omega)
      omega
    · exact ⟨Nat.le_refl _, he⟩
theorem sk_le {B : Nat → Nat} {L k e : Nat} (he : e ≤ L) : e ≤ sk B L k e ∧ sk B L k e ≤ L := skF_le B L k _ e he
def nmF (B : Nat → Nat) (L : Nat) : Nat → Nat → Nat → Nat
  | 0, _, a => a
  | f + 1, e, a => if e < L ∧ cl 2 (B e) = true then nmF B L f (e + 1) (min 10000 (10 * a + B e - 48)) else a
def nm (B : Nat → Nat) (L e a : Nat) : Nat := nmF B L (L - e) e a
theorem nm_y {B : Nat → Nat} {L e a : Nat} (h : e < L) (hc : cl 2 (B e) = true) : nm B L e a = nm B L (e + 1) (min 10000 (10 * a + B e - 48)) := by
  unfold nm
  rw [show L - e = (L - (e + 1)) + 1 by omega]
  show (if e < L ∧ cl 2 (B e) = true then nmF B L (L - (e + 1)) (e + 1) (min 10000 (10 * a + B e - 48)) else a) = _
  rw [if_pos ⟨h, hc⟩]
theorem nm_n {B : Nat → Nat} {L e a : Nat} (h : ¬ (e < L ∧ cl 2 (B e) = true)) : nm B L e a = a := by
  unfold nm
  cases hf : L - e with
  | zero => rfl
  | succ f =>
    show (if e < L ∧ cl 2 (B e) = true then nmF B L f (e + 1) (min 10000 (10 * a + B e - 48)) else a) = a
    rw [if_neg h]
theorem nmF_le (B : Nat → Nat) (L : Nat) : ∀ f e a, a ≤ 10000 → nmF B L f e a ≤ 10000 := by
  intro f
  induction f with
  | zero => intro e a h; exact h
  | succ f ih =>
    intro e a h
    show (if e < L ∧ cl 2 (B e) = true then nmF B L f (e + 1) (min 10000 (10 * a + B e - 48)) else a) ≤ 10000
    split
    · exact ih _ _ (by omega)
    · exact h
def tk5 (T : Mk) (k s e a : Nat) : Mk := u2 (u2 (u2 (u2 T 1 1 k) 1 2 s) 1 3 e) 1 4 a
theorem u2_u2 (T : Mk) (j i v w : Nat) : u2 (u2 T j i v) j i w = u2 T j i w := by
  funext b c
  unfold u2
  by_cases h : b = j ∧ c = i
  · rw [if_pos h, if_pos h]
  · rw [if_neg h, if_neg h, if_neg h]
theorem u2_cm (T : Mk) {i i' : Nat} (hi : i ≠ i') (v w : Nat) : u2 (u2 T 1 i v) 1 i' w = u2 (u2 T 1 i' w) 1 i v := by
  funext b c
  unfold u2
  by_cases h : b = 1 ∧ c = i
  · by_cases h2 : b = 1 ∧ c = i'
    · omega
    · rw [if_neg h2, if_pos h, if_pos h]
  · rw [if_neg h]
    by_cases h2 : b = 1 ∧ c = i'
    · rw [if_pos h2, if_neg h]
    · rw [if_neg h2, if_neg h]
section TK5
variable (T : Mk) (k s e a v : Nat)
theorem tk5_u4 : u2 (tk5 T k s e a) 1 4 v = tk5 T k s e v := by unfold tk5; rw [u2_u2]
theorem tk5_u3 : u2 (tk5 T k s e a) 1 3 v = tk5 T k s v a := by unfold tk5; rw [u2_cm _ (by decide), u2_u2]
theorem tk5_u2 : u2 (tk5 T k s e a) 1 2 v = tk5 T k v e a := by unfold tk5; rw [u2_cm _ (by decide : (4 : Nat) ≠ 2), u2_cm _ (by decide : (3 : Nat) ≠ 2), u2_u2]
theorem tk5_u1 : u2 (tk5 T k s e a) 1 1 v = tk5 T v s e a := by unfold tk5; rw [u2_cm _ (by decide : (4 : Nat) ≠ 1), u2_cm _ (by decide : (3 : Nat) ≠ 1), u2_cm _ (by decide : (2 : Nat) ≠ 1), u2_u2]
theorem tk5_id : tk5 T (T 1 1) (T 1 2) (T 1 3) (T 1 4) = T := by
  funext b c
  unfold tk5 u2
  by_cases h4 : b = 1 ∧ c = 4
  · rw [if_pos h4, h4.1, h4.2]
  · rw [if_neg h4]
    by_cases h3 : b = 1 ∧ c = 3
    · rw [if_pos h3, h3.1, h3.2]
    · rw [if_neg h3]
      by_cases h2 : b = 1 ∧ c = 2
      · rw [if_pos h2, h2.1, h2.2]
      · rw [if_neg h2]
        by_cases h1 : b = 1 ∧ c = 1
        · rw [if_pos h1, h1.1, h1.2]
        · rw [if_neg h1]
theorem tk5_x : tk5 T k s e a 0 = T 0 ∧ tk5 T k s e a 1 0 = T 1 0 ∧ tk5 T k s e a 1 1 = k ∧ tk5 T k s e a 1 2 = s ∧ tk5 T k s e a 1 3 = e ∧ tk5 T k s e a 1 4 = a := by
  refine ⟨?_, rfl, rfl, rfl, rfl, rfl⟩
  funext c
  unfold tk5 u2
  simp
end TK5
theorem tk5_5 (T : Mk) (k s e a k' s' e' a' : Nat) : tk5 (tk5 T k s e a) k' s' e' a' = tk5 T k' s' e' a' := by
  show u2 (u2 (u2 (u2 (tk5 T k s e a) 1 1 k') 1 2 s') 1 3 e') 1 4 a' = _
  rw [tk5_u1, tk5_u2, tk5_u3, tk5_u4]
theorem Ch.x {S S1 : St} {T : Mk} {k s e a : Nat} (g : Ch S S1 4 (tk5 T k s e a)) : S1 4 0 = T 0 ∧ S1 4 1 0 = T 1 0 ∧ S1 4 1 1 = k ∧ S1 4 1 2 = s ∧ S1 4 1 3 = e ∧ S1 4 1 4 = a := by
  have h := tk5_x T k s e a
  rw [← g.1] at h
  exact h
/-- the token at s -/
def kd (B : Nat → Nat) (L s : Nat) : Nat := if L ≤ s then 0 else if cl 1 (B s) = true then 1 else if cl 2 (B s) = true then 2 else if B s = 59 then 3 else 4
def en (B : Nat → Nat) (L s : Nat) : Nat := if L ≤ s then s else if cl 1 (B s) = true then sk B L 1 (s + 1) else if cl 2 (B s) = true then sk B L 2 (s + 1) else s + 1
def am (B : Nat → Nat) (L s : Nat) : Nat := if L ≤ s then 0 else if cl 1 (B s) = true then 0 else if cl 2 (B s) = true then nm B L (s + 1) (B s - 48) else 0
def tkA (T : Mk) (s : Nat) : Mk := tk5 T (kd (T 0) (T 1 0) s) s (en (T 0) (T 1 0) s) (am (T 0) (T 1 0) s)
def tkn (T : Mk) : Mk := tkA T (sk (T 0) (T 1 0) 0 (T 1 3))
/-- what a tape keeps -/
def tpB (T : Mk) : Prop := T 1 0 ≤ 120 ∧ ∀ i, i < T 1 0 → T 0 i ≤ 255
def tpG (T : Mk) : Prop := tpB T ∧ T 1 2 ≤ T 1 3 ∧ T 1 3 ≤ T 1 0 ∧ T 1 4 ≤ 10000 ∧ T 1 1 ≤ 4
theorem cl2_b {b : Nat} (h : cl 2 b = true) : 48 ≤ b ∧ b ≤ 57 := by simpa [cl] using h
theorem cl1_b {b : Nat} (h : cl 1 b = true) : 97 ≤ b ∧ b ≤ 122 := by simpa [cl] using h
theorem tkn_0 (T : Mk) : tkn T 0 = T 0 := by
  unfold tkn tkA
  exact (tk5_x _ _ _ _ _).1
theorem tkn_10 (T : Mk) : tkn T 1 0 = T 1 0 := rfl
theorem tkn_B {T : Mk} (h : tpB T) : tpB (tkn T) := by
  unfold tpB at *
  rw [tkn_0, tkn_10]
  exact h
theorem tkn_G {T : Mk} (h : tpB T) (he : T 1 3 ≤ T 1 0) : tpG (tkn T) := by
  have hs := sk_le (B := T 0) (k := 0) he
  refine ⟨tkn_B h, ?_⟩
  show sk (T 0) (T 1 0) 0 (T 1 3) ≤ en (T 0) (T 1 0) (sk (T 0) (T 1 0) 0 (T 1 3)) ∧ en (T 0) (T 1 0) (sk (T 0) (T 1 0) 0 (T 1 3)) ≤ T 1 0 ∧ am (T 0) (T 1 0) (sk (T 0) (T 1 0) 0 (T 1 3)) ≤ 10000 ∧ kd (T 0) (T 1 0) (sk (T 0) (T 1 0) 0 (T 1 3)) ≤ 4
  generalize sk (T 0) (T 1 0) 0 (T 1 3) = s at hs ⊢
  unfold en am kd
  by_cases h1 : T 1 0 ≤ s
  · rw [if_pos h1, if_pos h1, if_pos h1]
    omega
  · rw [if_neg h1, if_neg h1, if_neg h1]
    by_cases h2 : cl 1 (T 0 s) = true
    · rw [if_pos h2, if_pos h2, if_pos h2]
      have := sk_le (B := T 0) (L := T 1 0) (k := 1) (e := s + 1) (by omega)
      omega
    · rw [if_neg h2, if_neg h2, if_neg h2]
      by_cases h3 : cl 2 (T 0 s) = true
      · rw [if_pos h3, if_pos h3, if_pos h3]
        have := sk_le (B := T 0) (L := T 1 0) (k := 2) (e := s + 1) (by omega)
        have h4 := nmF_le (T 0) (T 1 0) (T 1 0 - (s + 1)) (s + 1) (T 0 s - 48) (by have := cl2_b h3; omega)
        refine ⟨by omega, by omega, h4, by omega⟩
      · rw [if_neg h3, if_neg h3, if_neg h3]
        split <;> omega
/-- a byte as Java reads it -/
def bt (B : Nat → Nat) (L i : Nat) : Int32 := if i < L then nI (B i) else -1
theorem bt_y {B : Nat → Nat} {L i : Nat} (h : i < L) : bt B L i = nI (B i) := if_pos h
theorem bt_n {B : Nat → Nat} {L i : Nat} (h : ¬ i < L) : bt B L i = -1 := if_neg h
theorem bt_let {B : Nat → Nat} {L i : Nat} (hB : ∀ i, i < L → B i ≤ 255) : (¬ bt B L i < nI 97 ∧ ¬ nI 122 < bt B L i) ↔ (i < L ∧ cl 1 (B i) = true) := by
  by_cases h : i < L
  · have := hB i h
    rw [bt_y h, nI_ltI (by omega) (by decide), nI_ltI (by decide) (by omega)]
    simp only [cl, decide_eq_true_eq]
    omega
  · rw [bt_n h]
    constructor
    · intro z; exact absurd (by decide) z.1
    · intro z; exact absurd z.1 h
theorem bt_dig {B : Nat → Nat} {L i : Nat} (hB : ∀ i, i < L → B i ≤ 255) : (¬ bt B L i < nI 48 ∧ ¬ nI 57 < bt B L i) ↔ (i < L ∧ cl 2 (B i) = true) := by
  by_cases h : i < L
  · have := hB i h
    rw [bt_y h, nI_ltI (by omega) (by decide), nI_ltI (by decide) (by omega)]
    simp only [cl, decide_eq_true_eq]
    omega
  · rw [bt_n h]
    constructor
    · intro z; exact absurd (by decide) z.1
    · intro z; exact absurd z.1 h
/-- the words and the numbers -/
abbrev wd (T : Mk) (j : Nat) : Prop := T 1 1 = 1 ∧ T 1 3 - T 1 2 = sL j ∧ ∀ i, i < sL j → T 0 (T 1 2 + i) = sN j i
abbrev nb (T : Mk) (l h : Nat) : Prop := T 1 1 = 2 ∧ l ≤ T 1 4 ∧ T 1 4 ≤ h
theorem tn_lt {P : Prop} [Decidable P] {a : Nat} (ha : a < 2 ^ 31) : (if P then nI a else (-1 : Int32)) < 0 ↔ ¬ P := by
  by_cases h : P
  · rw [if_pos h]
    exact ⟨fun z => absurd z (fun z => nI_pos ha z), fun z => absurd h z⟩
  · rw [if_neg h]
    exact ⟨fun _ => h, fun _ => by decide⟩
theorem tn_ge {P : Prop} [Decidable P] {a : Nat} (ha : a < 2 ^ 31) : (0 : Int32) ≤ (if P then nI a else (-1 : Int32)) ↔ P := by
  rw [← Int32.not_lt, tn_lt ha]
  exact Decidable.not_not
/-! the items -/
def pcoin (T M : Mk) (k : Nat) : Bool × Mk × Mk :=
  if ¬ wd (tkn T) 6 then (false, tkn T, M) else
  if ¬ nb (tkn (tkn T)) 0 3 then (false, tkn (tkn T), M) else
  if ¬ wd (tkn (tkn (tkn T))) 7 then (false, tkn (tkn (tkn T)), M) else
  if ¬ nb (tkn (tkn (tkn (tkn T)))) 0 99 then (false, tkn (tkn (tkn (tkn T))), M) else
  if wd (tkn (tkn (tkn (tkn (tkn T))))) 8 then (true, tkn (tkn (tkn (tkn (tkn (tkn T))))), addC M k (tkn (tkn T) 1 4) (tkn (tkn (tkn (tkn T))) 1 4) 1) else
  if wd (tkn (tkn (tkn (tkn (tkn T))))) 9 then (true, tkn (tkn (tkn (tkn (tkn (tkn T))))), addC M k (tkn (tkn T) 1 4) (tkn (tkn (tkn (tkn T))) 1 4) 2) else
  (true, tkn (tkn (tkn (tkn (tkn T)))), addC M k (tkn (tkn T) 1 4) (tkn (tkn (tkn (tkn T))) 1 4) 0)
def ptwo (T M : Mk) (j m h : Nat) : Bool × Mk × Mk :=
  if ¬ nb (tkn T) 0 m then (false, tkn T, M) else
  if ¬ nb (tkn (tkn T)) 0 h then (false, tkn (tkn T), M) else
  (true, tkn (tkn (tkn T)), u2 M j (tkn T 1 4) (tkn (tkn T) 1 4))
def ploan (T M : Mk) : Bool × Mk × Mk :=
  if ¬ nb (tkn T) 0 3 then (false, tkn T, M) else
  if ¬ wd (tkn (tkn T)) 13 then (false, tkn (tkn T), M) else
  if tkn (tkn (tkn T)) 1 1 = 2 ∧ tkn (tkn (tkn T)) 1 4 = tkn T 1 4 then (false, tkn (tkn (tkn T)), M) else
  if ¬ nb (tkn (tkn (tkn T))) 0 3 then (false, tkn (tkn (tkn T)), M) else
  if ¬ nb (tkn (tkn (tkn (tkn T)))) 1 9999 then (false, tkn (tkn (tkn (tkn T))), M) else
  if ¬ wd (tkn (tkn (tkn (tkn (tkn T))))) 14 then (false, tkn (tkn (tkn (tkn (tkn T)))), M) else
  if ¬ nb (tkn (tkn (tkn (tkn (tkn (tkn T)))))) 1 120 then (false, tkn (tkn (tkn (tkn (tkn (tkn T))))), M) else
  (true, tkn (tkn (tkn (tkn (tkn (tkn (tkn T)))))), addL M (tkn T 1 4) (tkn (tkn (tkn T)) 1 4) (tkn (tkn (tkn (tkn T))) 1 4) (tkn (tkn (tkn (tkn (tkn (tkn T))))) 1 4))
/-- the kinds' names stand at 5 (coin), 0 .. 4 -/
def kS (k : Nat) : Nat := if k = 0 then 5 else k - 1
def kn (T : Mk) : Nat := if wd T 5 then 0 else if wd T 0 then 1 else if wd T 1 then 2 else if wd T 2 then 3 else if wd T 3 then 4 else if wd T 4 then 5 else 6
def pitem (T M : Mk) : Bool × Mk × Mk :=
  if kn T < 6 then (if M 13 0 < 12 then pcoin T M (kn T) else (false, T, M)) else
  if wd T 10 then ptwo T M 4 3 9 else
  if wd T 11 then ptwo T M 5 11 99 else
  if wd T 12 ∧ M 13 1 < 8 then ploan T M else (false, T, M)
/-- the items from a token on: none, or how many and the market -/
def pitems : Nat → Nat → Mk → Mk → (Nat ⊕ Nat) × Mk
  | 0, _, T, M => (.inr (T 1 2), M)
  | f + 1, n, T, M =>
    if (pitem T M).1 = false then (.inr ((pitem T M).2.1 1 2), M) else
    if (pitem T M).2.1 1 1 = 0 then (.inl n, (pitem T M).2.2) else
    if ¬ (pitem T M).2.1 1 1 = 3 then (.inr ((pitem T M).2.1 1 2), M) else
    pitems f (n + 1) (tkn (pitem T M).2.1) (pitem T M).2.2
def Tz (S S' : St) (T M : Mk) : Prop := S' 4 = T ∧ S' 2 = M ∧ S' 0 = S 0 ∧ S' 1 = S 1 ∧ S' 5 = S 5 ∧ S' 6 = S 6
theorem Tz.rf {S : St} : Tz S S (S 4) (S 2) := ⟨rfl, rfl, rfl, rfl, rfl, rfl⟩
theorem Tz.tk {S S1 S2 : St} {T T' M : Mk} (g : Tz S S1 T M) (h : Ch S1 S2 4 T') : Tz S S2 T' M :=
  ⟨h.1, (h.2 2 (by decide) (by decide)).trans g.2.1, (h.2 0 (by decide) (by decide)).trans g.2.2.1, (h.2 1 (by decide) (by decide)).trans g.2.2.2.1, (h.2 5 (by decide) (by decide)).trans g.2.2.2.2.1, (h.2 6 (by decide) (by decide)).trans g.2.2.2.2.2⟩
theorem Tz.ch {S S1 S2 : St} {T M' M : Mk} (g : Tz S S1 T M) (h : Ch S1 S2 2 M') : Tz S S2 T M' :=
  ⟨(h.2 4 (by decide) (by decide)).trans g.1, h.1, (h.2 0 (by decide) (by decide)).trans g.2.2.1, (h.2 1 (by decide) (by decide)).trans g.2.2.2.1, (h.2 5 (by decide) (by decide)).trans g.2.2.2.2.1, (h.2 6 (by decide) (by decide)).trans g.2.2.2.2.2⟩
theorem Tz.tr {S S1 S2 : St} {T T' M M' : Mk} (g : Tz S S1 T M) (h : Tz S1 S2 T' M') : Tz S S2 T' M' :=
  ⟨h.1, h.2.1, h.2.2.1.trans g.2.2.1, h.2.2.2.1.trans g.2.2.2.1, h.2.2.2.2.1.trans g.2.2.2.2.1, h.2.2.2.2.2.trans g.2.2.2.2.2⟩
