/-! changes of a market -/
def u2 (M : Mk) (j i v : Nat) : Mk := fun b c => if b = j ∧ c = i then v else M b c
/-- market k became M; nothing else of the class changed but k's scratch rows -/
def Ch (S S' : St) (k : Nat) (M : Mk) : Prop := S' k = M ∧ ∀ a, a ≠ k → a ≠ 10 + k → S' a = S a
theorem u3_k (S : St) (k j i v : Nat) : u3 S k j i v k = u2 (S k) j i v := by
  funext b c
  simp [u3, u2]
theorem Ch.rf {S : St} {k : Nat} : Ch S S k (S k) := ⟨rfl, fun _ _ _ => rfl⟩
theorem Ch.u {S S' : St} {k : Nat} {M : Mk} (h : Ch S S' k M) (j i v : Nat) : Ch S (u3 S' k j i v) k (u2 M j i v) :=
  ⟨by rw [u3_k, h.1], fun a h1 h2 => by rw [u3_oth _ h1]; exact h.2 a h1 h2⟩
theorem Ch.v {S S' : St} {k : Nat} {M : Mk} (h : Ch S S' k M) (j i v : Nat) : Ch S (u3 S' (10 + k) j i v) k M :=
  ⟨by rw [u3_oth _ (by omega)]; exact h.1, fun a h1 h2 => by rw [u3_oth _ h2]; exact h.2 a h1 h2⟩
theorem Ch.tr {S S1 S2 : St} {k : Nat} {M1 M2 : Mk} (h1 : Ch S S1 k M1) (h2 : Ch S1 S2 k M2) : Ch S S2 k M2 :=
  ⟨h2.1, fun a ha hb => (h2.2 a ha hb).trans (h1.2 a ha hb)⟩
theorem Ch.to {S S1 : St} {k : Nat} {M1 M2 : Mk} (h1 : Ch S S1 k M1) (h2 : M1 = M2) : Ch S S1 k M2 := h2 ▸ h1
theorem Ch.wf {S S1 : St} {k : Nat} {M1 : Mk} (h1 : Ch S S1 k M1) (h2 : WF M1) : WF (S1 k) := h1.1 ▸ h2
theorem u2_s (M : Mk) (j i v : Nat) : u2 M j i v j i = v := by simp [u2]
theorem u2_nj (M : Mk) {j i v b c : Nat} (h : b ≠ j) : u2 M j i v b c = M b c := by simp [u2, h]
theorem u2_ni (M : Mk) {j i v b c : Nat} (h : c ≠ i) : u2 M j i v b c = M b c := by simp [u2, h]
def addC (M : Mk) (kd o sz s : Nat) : Mk := u2 (u2 (u2 (u2 (u2 M 0 (M 13 0) kd) 1 (M 13 0) o) 2 (M 13 0) sz) 3 (M 13 0) s) 13 0 (M 13 0 + 1)
def addL (M : Mk) (f t v n : Nat) : Mk := u2 (u2 (u2 (u2 (u2 (u2 M 6 (M 13 1) f) 7 (M 13 1) t) 8 (M 13 1) v) 9 (M 13 1) (M 13 2 + n)) 10 (M 13 1) 0) 13 1 (M 13 1 + 1)
def swp1 (M : Mk) (j a b : Nat) : Mk := u2 (u2 M j a (M j b)) j b (M j a)
def swp (M : Mk) (a b : Nat) : Mk := fun j i => if j < 4 then M j (if i = b then a else if i = a then b else i) else M j i
theorem swp1_4 (M : Mk) (a b : Nat) : swp1 (swp1 (swp1 (swp1 M 0 a b) 1 a b) 2 a b) 3 a b = swp M a b := by
  funext j i
  unfold swp swp1
  match j with
  | 0 => by_cases h1 : i = b <;> by_cases h2 : i = a <;> simp [u2, h1, h2] <;> split <;> rfl
  | 1 => by_cases h1 : i = b <;> by_cases h2 : i = a <;> simp [u2, h1, h2] <;> split <;> rfl
  | 2 => by_cases h1 : i = b <;> by_cases h2 : i = a <;> simp [u2, h1, h2] <;> split <;> rfl
  | 3 => by_cases h1 : i = b <;> by_cases h2 : i = a <;> simp [u2, h1, h2] <;> split <;> rfl
  | j + 4 =>
    have : ¬ j + 4 < 4 := by omega
    simp [u2, this]
def plantS (M : Mk) (s n : Nat) : Mk := fun j i => if j = 3 ∧ i < n ∧ bit s i = 1 then 2 else M j i
theorem plantS_0 (M : Mk) (s : Nat) : plantS M s 0 = M := by funext j i; simp [plantS]
theorem plantS_no {M : Mk} {s n : Nat} (h : ¬ bit s n = 1) : plantS M s (n + 1) = plantS M s n := by
  funext j i
  unfold plantS
  by_cases hi : i = n
  · subst hi; simp [h]
  · have : i < n + 1 ↔ i < n := by omega
    simp [this]
theorem plantS_yes {M : Mk} {s n : Nat} (h : bit s n = 1) : plantS M s (n + 1) = u2 (plantS M s n) 3 n 2 := by
  funext j i
  unfold plantS u2
  by_cases hi : i = n
  · subst hi
    by_cases hj : j = 3 <;> simp [h, hj]
  · have : i < n + 1 ↔ i < n := by omega
    simp [this, hi]
/-! a month -/
def rot (M : Mk) (c : Nat) : Prop := c < M 13 0 ∧ M 3 c = 1
abbrev besd (M : Mk) (c : Nat) : Prop := (0 < c ∧ c - 1 < M 13 0 ∧ M 3 (c - 1) = 1) ∨ (c + 1 < M 13 0 ∧ M 3 (c + 1) = 1)
def agSz (M : Mk) (c : Nat) : Nat := if M 3 c = 0 then M 2 c - shr (M 0 c) (sea M) else if M 3 c = 2 ∧ sea M = 8 then min 99 (M 2 c * yld (M 0 c) (M 4 (M 1 c))) else M 2 c
def agSt (M : Mk) (c : Nat) : Nat := if M 3 c = 0 then (if agSz M c = 0 ∨ (besd M c ∧ ¬ blue (M 0 c)) then 1 else 0) else if M 3 c = 2 ∧ sea M = 8 then (if agSz M c = 0 then 1 else 0) else M 3 c
def agUp (M : Mk) (n : Nat) : Mk := fun j i => if j = 2 ∧ i < n then agSz M i else if j = 3 ∧ i < n then agSt M i else M j i
def age1 (M : Mk) : Mk := u2 (agUp M (M 13 0)) 13 2 (M 13 2 + 1)
theorem agUp_0 (M : Mk) : agUp M 0 = M := by funext j i; simp [agUp]
theorem agUp_s (M : Mk) (n : Nat) : agUp M (n + 1) = u2 (u2 (agUp M n) 2 n (agSz M n)) 3 n (agSt M n) := by
  funext j i
  unfold agUp u2
  by_cases hi : i = n
  · subst hi
    by_cases h2 : j = 2
    · subst h2; simp
    · by_cases h3 : j = 3 <;> simp [h2, h3]
  · have : i < n + 1 ↔ i < n := by omega
    simp [this, hi]
theorem u2_id (M : Mk) (j i : Nat) {v : Nat} (h : M j i = v) : u2 M j i v = M := by
  funext b c
  unfold u2
  by_cases hb : b = j ∧ c = i
  · rw [if_pos hb, hb.1, hb.2, h]
  · rw [if_neg hb]
theorem agUp_at {M : Mk} {n j i : Nat} (h : (j ≠ 2 ∧ j ≠ 3) ∨ n ≤ i) : agUp M n j i = M j i := by
  unfold agUp
  rcases h with h | h
  · simp [h.1, h.2]
  · have : ¬ i < n := by omega
    simp [this]
theorem agSz_le {M : Mk} (h : WF M) (c : Nat) : agSz M c ≤ 99 := by
  have h1 := h.sz c
  unfold agSz
  split
  · omega
  · split
    · exact Nat.min_le_left _ _
    · exact h1
theorem agSt_le {M : Mk} (h : WF M) (c : Nat) : agSt M c ≤ 2 := by
  have h1 := h.st c
  unfold agSt
  split
  · split <;> omega
  · split
    · split <;> omega
    · exact h1
theorem WF.upd {M : Mk} (h : WF M) {j i v : Nat} (hv : (j = 0 → v ≤ 5) ∧ (j = 1 → v ≤ 3) ∧ (j = 2 → v ≤ 99) ∧ (j = 3 → v ≤ 2) ∧ (j = 4 → v ≤ 9) ∧ (j = 5 → v ≤ 99) ∧ (j = 6 → v ≤ 3) ∧ (j = 7 → v ≤ 3) ∧ (j = 8 → v ≤ 9999) ∧ (j = 9 → v ≤ 20000) ∧ (j = 10 → v ≤ 1) ∧ (j = 13 → (i = 0 → v ≤ 12) ∧ (i = 1 → v ≤ 8) ∧ (i = 2 → v ≤ 10000))) : WF (u2 M j i v) := by
  obtain ⟨a1, a2, a3, a4, a5, a6, a7⟩ := h
  unfold u2
  refine ⟨?_, ?_, ?_, fun c => ⟨?_, ?_, ?_, ?_⟩, fun o => ?_, fun t => ?_, fun i => ⟨?_, ?_, ?_, ?_, ?_⟩⟩ <;> dsimp only <;> split
  all_goals (first | (next hh => first | exact hv.2.2.2.2.2.2.2.2.2.2.2 hh.1.symm |>.1 hh.2.symm | skip) | skip)
  all_goals (first | omega | exact (a4 c).1 | exact (a4 c).2.1 | exact (a4 c).2.2.1 | exact (a4 c).2.2.2 | exact a5 _ | exact a6 _ | exact (a7 _).1 | exact (a7 _).2.1 | exact (a7 _).2.2.1 | exact (a7 _).2.2.2.1 | exact (a7 _).2.2.2.2)
theorem WF.agUp {M : Mk} (h : WF M) (n : Nat) : WF (agUp M n) := by
  induction n with
  | zero => rw [agUp_0]; exact h
  | succ n ih =>
    rw [agUp_s]
    have h1 := agSz_le h n
    have h2 := agSt_le h n
    refine (ih.upd ?_).upd ?_ <;> omega
theorem WF.age1 {M : Mk} (h : WF M) (hm : M 13 2 + 1 ≤ 10000) : WF (age1 M) := by
  refine (h.agUp _).upd ?_
  omega
theorem age1_13 (M : Mk) : age1 M 13 0 = M 13 0 ∧ age1 M 13 1 = M 13 1 ∧ age1 M 13 2 = M 13 2 + 1 ∧ age1 M 13 3 = M 13 3 := by
  unfold age1
  refine ⟨?_, ?_, ?_, ?_⟩
  · rw [u2_ni _ (by omega), agUp_at (by omega)]
  · rw [u2_ni _ (by omega), agUp_at (by omega)]
  · rw [u2_s]
  · rw [u2_ni _ (by omega), agUp_at (by omega)]
def agN (M : Mk) : Nat → Mk
  | 0 => M
  | n + 1 => age1 (agN M n)
def rotS (M : Mk) : Nat := setS (fun c => decide (M 3 c = 1)) (M 13 0)
theorem bit_rotS (M : Mk) (c : Nat) : bit (rotS M) c = 1 ↔ c < M 13 0 ∧ M 3 c = 1 := by
  unfold rotS
  rw [bit_setS]
  by_cases h : c < M 13 0 ∧ M 3 c = 1 <;> simp [h]
