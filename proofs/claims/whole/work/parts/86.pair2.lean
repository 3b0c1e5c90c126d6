theorem set_q {w : Int32} {j : Nat} (h : w = nI j) (hj : 1 ≤ j ∧ j ≤ 3) : ∃ q : Nat, (if w = nI 1 then (3 : Int) else if w = nI 2 then 99 else 2) = (q : Int) ∧ (if j = 1 then 3 else if j = 2 then 99 else 2) = q := by
  subst h
  rcases (show j = 1 ∨ j = 2 ∨ j = 3 by omega) with rfl | rfl | rfl
  · exact ⟨3, by simp, by simp⟩
  · exact ⟨99, by rw [if_neg (by decide), if_pos rfl]; rfl, by simp⟩
  · exact ⟨2, by rw [if_neg (by decide), if_neg (by decide)]; rfl, by simp⟩

theorem sl_lt {i j : Nat} (h : i ≤ (if j = 1 then 3 else if j = 2 then 99 else 2)) : i < 2 ^ 31 := by
  split at h
  · omega
  · split at h <;> omega

set_option maxHeartbeats 4000000 in
set_option maxRecDepth 100000 in
theorem p_set {S : St} {N : Nat → Nat → Int64} {X : St} {Y : Nat → Int64} (R : Rel S N X Y) {x w v : Int32} : Cn 3 yX3_set cX3_set 7 (some .int) [.ref 0, .int x, .int w, .int v] (hp S N X Y) (fun ans h => (∃ z, ans = some (.int z)) ∧ (∃ fs, h 69 = .inr (4, fs)) ∧ Cn 3 yX4_set cX4_set 4 (some .int) [.ref 69, .int x, .int w, .int v] h (Pq ans)) := by
  have e0 := R.x0
  have hco := R.wf.co
  have hlo := R.wf.lo
  have hmo := R.wf.mo
  refine c_set R.wf ?_ ?_
  · intro c1 S1 c2
    refine ⟨⟨_, rfl⟩, ⟨_, hp_69⟩, ?_⟩
    have K := @r_set S1 N X Y
    rw [e0] at K
    refine K R.wf ?_ ?_
    · intro c1' X1 c2'
      exact ⟨rfl, _, _, _, _, rfl, R.cf c2 c2' (by decide)⟩
    · intro c' j' i' c1' c2' c3' c4' c5' c6' X1 c7'
      have tc3' := nI_tI c3' (by first | omega | exact sl_lt c6')
      have tc4' := nI_tI c4' (by first | omega | exact sl_lt c6')
      have tc5' := nI_tI c5' (by first | omega | exact sl_lt c6')
      obtain ⟨q, hq1, hq2⟩ := set_q c4' c2'
      rw [hq1] at c1
      rw [hq2] at c6'
      exfalso; omega
  · intro c j i c1 c2 c3 c4 c5 c6 S1 c7
    have tc3 := nI_tI c3 (by first | omega | exact sl_lt c6)
    have tc4 := nI_tI c4 (by first | omega | exact sl_lt c6)
    have tc5 := nI_tI c5 (by first | omega | exact sl_lt c6)
    refine ⟨⟨_, rfl⟩, ⟨_, hp_69⟩, ?_⟩
    have K := @r_set S1 N X Y
    rw [e0] at K
    refine K R.wf ?_ ?_
    · intro c1' X1 c2'
      obtain ⟨q, hq1, hq2⟩ := set_q c4 c2
      rw [hq1] at c1'
      rw [hq2] at c6
      exfalso; omega
    · intro c' j' i' c1' c2' c3' c4' c5' c6' X1 c7'
      have tc3' := nI_tI c3' (by first | omega | exact sl_lt c6')
      have tc4' := nI_tI c4' (by first | omega | exact sl_lt c6')
      have tc5' := nI_tI c5' (by first | omega | exact sl_lt c6')
      obtain rfl : c' = c := by omega
      obtain rfl : j' = j := by omega
      obtain rfl : i' = i := by omega
      exact ⟨rfl, _, _, _, _, rfl, R.cc c7 c7' ⟨R.wf.upd (by have hx := c6; rcases (show j' = 1 ∨ j' = 2 ∨ j' = 3 by omega) with rfl | rfl | rfl <;> simp at hx <;> omega), wl_u2 R.wl (by omega) (by omega)⟩⟩

set_option maxHeartbeats 4000000 in
set_option maxRecDepth 100000 in
theorem p_plant {S : St} {N : Nat → Nat → Int64} {X : St} {Y : Nat → Int64} (R : Rel S N X Y) {x : Int32} : Cn 3 yX3_plant cX3_plant 2 (some .int) [.ref 0, .int x] (hp S N X Y) (fun ans h => (∃ z, ans = some (.int z)) ∧ (∃ fs, h 69 = .inr (4, fs)) ∧ Cn 3 yX4_plant cX4_plant 2 (some .int) [.ref 69, .int x] h (Pq ans)) := by
  have e0 := R.x0
  have hco := R.wf.co
  have hlo := R.wf.lo
  have hmo := R.wf.mo
  refine c_plant R.wf ?_ ?_ ?_
  · intro c1 S1 c2
    refine ⟨⟨_, rfl⟩, ⟨_, hp_69⟩, ?_⟩
    have K := @r_plant S1 N X Y
    rw [e0] at K
    refine K R.wf ?_ ?_ ?_
    · intro c1' X1 c2'
      exact ⟨rfl, _, _, _, _, rfl, R.cf c2 c2' (by decide)⟩
    · intro c' c1' c2' c3' X1 c4'
      have tc2' := nI_tI c2' (by omega)
      first | (exfalso; omega) | contradiction
    · intro c' c1' c2' c3' X1 c4'
      have tc2' := nI_tI c2' (by omega)
      first | (exfalso; omega) | contradiction
  · intro c c1 c2 c3 S1 c4
    have tc2 := nI_tI c2 (by omega)
    refine ⟨⟨_, rfl⟩, ⟨_, hp_69⟩, ?_⟩
    have K := @r_plant S1 N X Y
    rw [e0] at K
    refine K R.wf ?_ ?_ ?_
    · intro c1' X1 c2'
      first | (exfalso; omega) | contradiction
    · intro c' c1' c2' c3' X1 c4'
      have tc2' := nI_tI c2' (by omega)
      obtain rfl : c' = c := by omega
      exact ⟨rfl, _, _, _, _, rfl, R.cf c4 c4' (by decide)⟩
    · intro c' c1' c2' c3' X1 c4'
      have tc2' := nI_tI c2' (by omega)
      (try obtain rfl : c' = c := by omega)
      first | (exfalso; omega) | contradiction
  · intro c c1 c2 c3 S1 c4
    have tc2 := nI_tI c2 (by omega)
    refine ⟨⟨_, rfl⟩, ⟨_, hp_69⟩, ?_⟩
    have K := @r_plant S1 N X Y
    rw [e0] at K
    refine K R.wf ?_ ?_ ?_
    · intro c1' X1 c2'
      first | (exfalso; omega) | contradiction
    · intro c' c1' c2' c3' X1 c4'
      have tc2' := nI_tI c2' (by omega)
      (try obtain rfl : c' = c := by omega)
      first | (exfalso; omega) | contradiction
    · intro c' c1' c2' c3' X1 c4'
      have tc2' := nI_tI c2' (by omega)
      obtain rfl : c' = c := by omega
      exact ⟨rfl, _, _, _, _, rfl, R.cc c4 c4' ⟨R.wf.upd (by omega), wl_u2 R.wl (by decide) (by decide)⟩⟩

set_option maxHeartbeats 4000000 in
set_option maxRecDepth 100000 in
theorem p_pay {S : St} {N : Nat → Nat → Int64} {X : St} {Y : Nat → Int64} (R : Rel S N X Y) {x y v : Int32} : Cn 17 yX3_pay cX3_pay 4 (some .int) [.ref 0, .int x, .int y, .int v] (hp S N X Y) (fun ans h => (∃ z, ans = some (.int z)) ∧ (∃ fs, h 69 = .inr (4, fs)) ∧ Cn 6 yX4_pay cX4_pay 4 (some .int) [.ref 69, .int x, .int y, .int v] h (Pq ans)) := by
  have e0 := R.x0
  have hco := R.wf.co
  have hlo := R.wf.lo
  have hmo := R.wf.mo
  refine c_pay R.wf ?_ ?_
  · intro c1 S1 c2
    refine ⟨⟨_, rfl⟩, ⟨_, hp_69⟩, ?_⟩
    have K := @r_pay S1 N X Y
    rw [e0] at K
    refine K R.wf ?_ ?_
    · intro c1' X1 c2'
      exact ⟨rfl, _, _, _, _, rfl, R.cf c2 c2' (by decide)⟩
    · intro f' t' a' c1' c2' c3' c4' c5' c6' c7' X1 c8'
      have tc5' := nI_tI c5' (by omega)
      have tc6' := nI_tI c6' (by omega)
      have tc7' := nI_tI c7' (by omega)
      have hne' : x ≠ y := fun e => c3' (by have := congrArg Int32.toInt e; omega)
      exact absurd ⟨⟨⟨by omega, by omega⟩, ⟨by omega, by omega⟩, hne'⟩, ⟨by omega, by omega⟩⟩ c1
  · intro f t a c1 c2 c3 c4 c5 c6 c7 S1 c8
    have tc5 := nI_tI c5 (by omega)
    have tc6 := nI_tI c6 (by omega)
    have tc7 := nI_tI c7 (by omega)
    have hne : x ≠ y := fun e => c3 (by have := congrArg Int32.toInt e; omega)
    refine ⟨⟨_, rfl⟩, ⟨_, hp_69⟩, ?_⟩
    have K := @r_pay S1 N X Y
    rw [e0] at K
    refine K R.wf ?_ ?_
    · intro c1' X1 c2'
      exact absurd ⟨⟨⟨by omega, by omega⟩, ⟨by omega, by omega⟩, hne⟩, ⟨by omega, by omega⟩⟩ c1'
    · intro f' t' a' c1' c2' c3' c4' c5' c6' c7' X1 c8'
      have tc5' := nI_tI c5' (by omega)
      have tc6' := nI_tI c6' (by omega)
      have tc7' := nI_tI c7' (by omega)
      obtain rfl : f' = f := by omega
      obtain rfl : t' = t := by omega
      obtain rfl : a' = a := by omega
      exact ⟨rfl, _, _, _, _, rfl, R.cc c8 c8' ⟨wf_pay R.wf (by omega), wl_pay R.wl _ _ _⟩⟩

set_option maxHeartbeats 4000000 in
set_option maxRecDepth 100000 in
theorem p_which {S : St} {N : Nat → Nat → Int64} {X : St} {Y : Nat → Int64} (R : Rel S N X Y) {x v : Int32} : Cn 17 yX3_which cX3_which 3 (some .int) [.ref 0, .int x, .int v] (hp S N X Y) (fun ans h => (∃ z, ans = some (.int z)) ∧ (∃ fs, h 69 = .inr (4, fs)) ∧ Cn 5 yX4_which cX4_which 3 (some .int) [.ref 69, .int x, .int v] h (Pq ans)) := by
  have e0 := R.x0
  have hco := R.wf.co
  have hlo := R.wf.lo
  have hmo := R.wf.mo
  refine c_which R.wf ?_ ?_
  · intro c1 S1 c2
    refine ⟨⟨_, rfl⟩, ⟨_, hp_69⟩, ?_⟩
    have K := @r_which S1 N X Y
    rw [e0] at K
    refine K R.wf ?_ ?_
    · intro c1' X1 c2'
      exact ⟨rfl, _, _, _, _, rfl, R.cf c2 c2' (by decide)⟩
    · intro f' a' c1' c2' c3' c4' X1 c5'
      have tc3' := nI_tI c3' (by omega)
      have tc4' := nI_tI c4' (by omega)
      first | (exfalso; omega) | contradiction
  · intro f a c1 c2 c3 c4 S1 c5
    have tc3 := nI_tI c3 (by omega)
    have tc4 := nI_tI c4 (by omega)
    refine ⟨⟨_, rfl⟩, ⟨_, hp_69⟩, ?_⟩
    have K := @r_which S1 N X Y
    rw [e0] at K
    refine K R.wf ?_ ?_
    · intro c1' X1 c2'
      first | (exfalso; omega) | contradiction
    · intro f' a' c1' c2' c3' c4' X1 c5'
      have tc3' := nI_tI c3' (by omega)
      have tc4' := nI_tI c4' (by omega)
      obtain rfl : f' = f := by omega
      obtain rfl : a' = a := by omega
      exact ⟨rfl, _, _, _, _, rfl, R.cc c5 c5' R.ww⟩

set_option maxHeartbeats 4000000 in
set_option maxRecDepth 100000 in
theorem p_over {S : St} {N : Nat → Nat → Int64} {X : St} {Y : Nat → Int64} (R : Rel S N X Y) {x v : Int32} : Cn 17 yX3_over cX3_over 3 (some .int) [.ref 0, .int x, .int v] (hp S N X Y) (fun ans h => (∃ z, ans = some (.int z)) ∧ (∃ fs, h 69 = .inr (4, fs)) ∧ Cn 5 yX4_over cX4_over 3 (some .int) [.ref 69, .int x, .int v] h (Pq ans)) := by
  have e0 := R.x0
  have hco := R.wf.co
  have hlo := R.wf.lo
  have hmo := R.wf.mo
  refine c_over R.wf ?_ ?_
  · intro c1 S1 c2
    refine ⟨⟨_, rfl⟩, ⟨_, hp_69⟩, ?_⟩
    have K := @r_over S1 N X Y
    rw [e0] at K
    refine K R.wf ?_ ?_
    · intro c1' X1 c2'
      exact ⟨rfl, _, _, _, _, rfl, R.cf c2 c2' (by decide)⟩
    · intro f' a' c1' c2' c3' c4' X1 c5'
      have tc3' := nI_tI c3' (by omega)
      have tc4' := nI_tI c4' (by omega)
      first | (exfalso; omega) | contradiction
  · intro f a c1 c2 c3 c4 c5 S1 c6
    have tc3 := nI_tI c3 (by omega)
    have tc4 := nI_tI c4 (by omega)
    clear c5
    refine ⟨⟨_, rfl⟩, ⟨_, hp_69⟩, ?_⟩
    have K := @r_over S1 N X Y
    rw [e0] at K
    refine K R.wf ?_ ?_
    · intro c1' X1 c2'
      first | (exfalso; omega) | contradiction
    · intro f' a' c1' c2' c3' c4' X1 c5'
      have tc3' := nI_tI c3' (by omega)
      have tc4' := nI_tI c4' (by omega)
      obtain rfl : f' = f := by omega
      obtain rfl : a' = a := by omega
      exact ⟨rfl, _, _, _, _, rfl, R.cc c6 c5' R.ww⟩

set_option maxHeartbeats 4000000 in
set_option maxRecDepth 100000 in
theorem p_loan {S : St} {N : Nat → Nat → Int64} {X : St} {Y : Nat → Int64} (R : Rel S N X Y) {x y v z : Int32} : Cn 4 yX3_loan cX3_loan 5 (some .int) [.ref 0, .int x, .int y, .int v, .int z] (hp S N X Y) (fun ans h => (∃ z, ans = some (.int z)) ∧ (∃ fs, h 69 = .inr (4, fs)) ∧ Cn 3 yX4_loan cX4_loan 5 (some .int) [.ref 69, .int x, .int y, .int v, .int z] h (Pq ans)) := by
  have e0 := R.x0
  have hco := R.wf.co
  have hlo := R.wf.lo
  have hmo := R.wf.mo
  refine c_loan R.wf ?_ ?_ ?_ ?_
  · intro c1 S1 c2
    refine ⟨⟨_, rfl⟩, ⟨_, hp_69⟩, ?_⟩
    have K := @r_loan S1 N X Y
    rw [e0] at K
    refine K R.wf ?_ ?_ ?_ ?_
    · intro c1' X1 c2'
      exact ⟨rfl, _, _, _, _, rfl, R.cf c2 c2' (by decide)⟩
    · intro n' c1' c2' c3' c4' X1 c5'
      have tc2' := nI_tI c2' (by omega)
      exact absurd c3' c1
    · intro n' c1' c2' c3' c4' c5' X1 c6'
      have tc2' := nI_tI c2' (by omega)
      exact absurd c3' c1
    · intro f' t' a' n' c1' c2' c3' c4' c5' c6' c7' c8' c9' c10' c11' c12' X1 c13'
      have tc7' := nI_tI c7' (by omega)
      have tc8' := nI_tI c8' (by omega)
      have tc9' := nI_tI c9' (by omega)
      have tc10' := nI_tI c10' (by omega)
      have hne' : x ≠ y := fun e => c3' (by have := congrArg Int32.toInt e; omega)
      exact absurd ⟨⟨⟨by omega, by omega⟩, ⟨by omega, by omega⟩, hne'⟩, ⟨by omega, by omega⟩, ⟨by omega, by omega⟩⟩ c1
  · intro n c1 c2 c3 c4 S1 c5
    have tc2 := nI_tI c2 (by omega)
    refine ⟨⟨_, rfl⟩, ⟨_, hp_69⟩, ?_⟩
    have K := @r_loan S1 N X Y
    rw [e0] at K
    refine K R.wf ?_ ?_ ?_ ?_
    · intro c1' X1 c2'
      exact absurd c3 c1'
    · intro n' c1' c2' c3' c4' X1 c5'
      have tc2' := nI_tI c2' (by omega)
      obtain rfl : n' = n := by omega
      exact ⟨rfl, _, _, _, _, rfl, R.cf c5 c5' (by decide)⟩
    · intro n' c1' c2' c3' c4' c5' X1 c6'
      have tc2' := nI_tI c2' (by omega)
      (try obtain rfl : n' = n := by omega)
      first | (exfalso; omega) | contradiction
    · intro f' t' a' n' c1' c2' c3' c4' c5' c6' c7' c8' c9' c10' c11' c12' X1 c13'
      have tc7' := nI_tI c7' (by omega)
      have tc8' := nI_tI c8' (by omega)
      have tc9' := nI_tI c9' (by omega)
      have tc10' := nI_tI c10' (by omega)
      (try obtain rfl : n' = n := by omega)
      first | (exfalso; omega) | contradiction
  · intro n c1 c2 c3 c4 c5 S1 c6
    have tc2 := nI_tI c2 (by omega)
    refine ⟨⟨_, rfl⟩, ⟨_, hp_69⟩, ?_⟩
    have K := @r_loan S1 N X Y
    rw [e0] at K
    refine K R.wf ?_ ?_ ?_ ?_
    · intro c1' X1 c2'
      exact absurd c3 c1'
    · intro n' c1' c2' c3' c4' X1 c5'
      have tc2' := nI_tI c2' (by omega)
      (try obtain rfl : n' = n := by omega)
      first | (exfalso; omega) | contradiction
    · intro n' c1' c2' c3' c4' c5' X1 c6'
      have tc2' := nI_tI c2' (by omega)
      obtain rfl : n' = n := by omega
      exact ⟨rfl, _, _, _, _, rfl, R.cf c6 c6' (by decide)⟩
    · intro f' t' a' n' c1' c2' c3' c4' c5' c6' c7' c8' c9' c10' c11' c12' X1 c13'
      have tc7' := nI_tI c7' (by omega)
      have tc8' := nI_tI c8' (by omega)
      have tc9' := nI_tI c9' (by omega)
      have tc10' := nI_tI c10' (by omega)
      (try obtain rfl : n' = n := by omega)
      first | (exfalso; omega) | contradiction
  · intro f t a n c1 c2 c3 c4 c5 c6 c7 c8 c9 c10 c11 c12 S1 c13
    have tc7 := nI_tI c7 (by omega)
    have tc8 := nI_tI c8 (by omega)
    have tc9 := nI_tI c9 (by omega)
    have tc10 := nI_tI c10 (by omega)
    have hne : x ≠ y := fun e => c3 (by have := congrArg Int32.toInt e; omega)
    refine ⟨⟨_, rfl⟩, ⟨_, hp_69⟩, ?_⟩
    have K := @r_loan S1 N X Y
    rw [e0] at K
    refine K R.wf ?_ ?_ ?_ ?_
    · intro c1' X1 c2'
      exact absurd ⟨⟨⟨by omega, by omega⟩, ⟨by omega, by omega⟩, hne⟩, ⟨by omega, by omega⟩, ⟨by omega, by omega⟩⟩ c1'
    · intro n' c1' c2' c3' c4' X1 c5'
      have tc2' := nI_tI c2' (by omega)
      (try obtain rfl : n' = n := by omega)
      first | (exfalso; omega) | contradiction
    · intro n' c1' c2' c3' c4' c5' X1 c6'
      have tc2' := nI_tI c2' (by omega)
      (try obtain rfl : n' = n := by omega)
      first | (exfalso; omega) | contradiction
    · intro f' t' a' n' c1' c2' c3' c4' c5' c6' c7' c8' c9' c10' c11' c12' X1 c13'
      have tc7' := nI_tI c7' (by omega)
      have tc8' := nI_tI c8' (by omega)
      have tc9' := nI_tI c9' (by omega)
      have tc10' := nI_tI c10' (by omega)
      obtain rfl : f' = f := by omega
      obtain rfl : t' = t := by omega
      obtain rfl : a' = a := by omega
      obtain rfl : n' = n := by omega
      exact ⟨rfl, _, _, _, _, rfl, R.cc c13 c13' ⟨wf_addL R.wf (by omega) (by omega) (by omega) (by omega) (by omega), wl_addL R.wl (by omega)⟩⟩

set_option maxHeartbeats 4000000 in
set_option maxRecDepth 100000 in
theorem p_tax {S : St} {N : Nat → Nat → Int64} {X : St} {Y : Nat → Int64} (R : Rel S N X Y)  : Cn 5 yX3_tax cX3_tax 1 (some .int) [.ref 0] (hp S N X Y) (fun ans h => (∃ z, ans = some (.int z)) ∧ (∃ fs, h 69 = .inr (4, fs)) ∧ Cn 5 yX4_tax cX4_tax 6 (some .int) [.ref 69] h (Pq ans)) := by
  have e0 := R.x0
  have hco := R.wf.co
  have hlo := R.wf.lo
  have hmo := R.wf.mo
  refine c_tax R.wf ?_
  · intro S1 c1
    refine ⟨⟨_, rfl⟩, ⟨_, hp_69⟩, ?_⟩
    have K := @r_tax S1 N X Y
    rw [e0] at K
    refine K R.wf ?_
    · intro X1 c1'
      exact ⟨rfl, _, _, _, _, rfl, R.cc c1 c1'.p ⟨wf_txd R.wf 4, wl_txd R.wl 4⟩⟩

set_option maxHeartbeats 4000000 in
set_option maxRecDepth 100000 in
theorem p_months {S : St} {N : Nat → Nat → Int64} {X : St} {Y : Nat → Int64} (R : Rel S N X Y) {z : Int32} : Cn 19 yX3_months cX3_months 3 (some .int) [.ref 0, .int z] (hp S N X Y) (fun ans h => (∃ z, ans = some (.int z)) ∧ (∃ fs, h 69 = .inr (4, fs)) ∧ Cn 10 yX4_months cX4_months 3 (some .int) [.ref 69, .int z] h (Pq ans)) := by
  have e0 := R.x0
  have hco := R.wf.co
  have hlo := R.wf.lo
  have hmo := R.wf.mo
  refine c_months R.wf ?_ ?_ ?_
  · intro c1 S1 c2
    refine ⟨⟨_, rfl⟩, ⟨_, hp_69⟩, ?_⟩
    have K := @r_months S1 N X Y
    rw [e0] at K
    refine K R.wf R.wl ?_ ?_ ?_
    · intro c1' X1 c2'
      exact ⟨rfl, _, _, _, _, rfl, R.cf c2 c2' (by decide)⟩
    · intro n' c1' c2' c3' c4' X1 c5'
      have tc3' := nI_tI c3' (by omega)
      first | (exfalso; omega) | contradiction
    · intro n' c1' c2' c3' c4' X1 c5'
      have tc3' := nI_tI c3' (by omega)
      first | (exfalso; omega) | contradiction
  · intro n c1 c2 c3 c4 S1 c5
    have tc3 := nI_tI c3 (by omega)
    refine ⟨⟨_, rfl⟩, ⟨_, hp_69⟩, ?_⟩
    have K := @r_months S1 N X Y
    rw [e0] at K
    refine K R.wf R.wl ?_ ?_ ?_
    · intro c1' X1 c2'
      first | (exfalso; omega) | contradiction
    · intro n' c1' c2' c3' c4' X1 c5'
      have tc3' := nI_tI c3' (by omega)
      obtain rfl : n' = n := by omega
      exact ⟨rfl, _, _, _, _, rfl, R.cf c5 c5' (by decide)⟩
    · intro n' c1' c2' c3' c4' X1 c5'
      have tc3' := nI_tI c3' (by omega)
      (try obtain rfl : n' = n := by omega)
      first | (exfalso; omega) | contradiction
  · intro n c1 c2 c3 c4 S1 c5
    have tc3 := nI_tI c3 (by omega)
    refine ⟨⟨_, rfl⟩, ⟨_, hp_69⟩, ?_⟩
    have K := @r_months S1 N X Y
    rw [e0] at K
    refine K R.wf R.wl ?_ ?_ ?_
    · intro c1' X1 c2'
      first | (exfalso; omega) | contradiction
    · intro n' c1' c2' c3' c4' X1 c5'
      have tc3' := nI_tI c3' (by omega)
      (try obtain rfl : n' = n := by omega)
      first | (exfalso; omega) | contradiction
    · intro n' c1' c2' c3' c4' X1 c5'
      have tc3' := nI_tI c3' (by omega)
      obtain rfl : n' = n := by omega
      exact ⟨rfl, _, _, _, _, rfl, R.cc c5 c5' ⟨(wf_monN R.wf (by omega)).1, wl_monN R.wl _⟩⟩

set_option maxHeartbeats 4000000 in
set_option maxRecDepth 100000 in
theorem p_on {S : St} {N : Nat → Nat → Int64} {X : St} {Y : Nat → Int64} (R : Rel S N X Y) {x z : Int32} : Cn 7 yX3_on cX3_on 3 (some .int) [.ref 0, .int x, .int z] (hp S N X Y) (fun ans h => (∃ z, ans = some (.int z)) ∧ (∃ fs, h 69 = .inr (4, fs)) ∧ Cn 10 yX4_on cX4_on 4 (some .int) [.ref 69, .int x, .int z] h (Pq ans)) := by
  have e0 := R.x0
  have hco := R.wf.co
  have hlo := R.wf.lo
  have hmo := R.wf.mo
  refine c_on R.wf ?_ ?_ ?_
  · intro c1 S1 c2
    refine ⟨⟨_, rfl⟩, ⟨_, hp_69⟩, ?_⟩
    have K := @r_on S1 N X Y
    rw [e0] at K
    refine K R.wf R.wl ?_ ?_ ?_
    · intro c1' X1 c2'
      exact ⟨rfl, _, _, _, _, rfl, R.cf c2 c2' (by decide)⟩
    · intro c' n' c1' c2' c3' c4' c5' X1 c6'
      have tc3' := nI_tI c3' (by omega)
      have tc4' := nI_tI c4' (by omega)
      first | (exfalso; omega) | contradiction
    · intro c' n' c1' c2' c3' c4' c5' X1 c6'
      have tc3' := nI_tI c3' (by omega)
      have tc4' := nI_tI c4' (by omega)
      first | (exfalso; omega) | contradiction
  · intro n c1 c2 c3 c4 S1 c5
    have tc2 := nI_tI c2 (by omega)
    refine ⟨⟨_, rfl⟩, ⟨_, hp_69⟩, ?_⟩
    have K := @r_on S1 N X Y
    rw [e0] at K
    refine K R.wf R.wl ?_ ?_ ?_
    · intro c1' X1 c2'
      first | (exfalso; omega) | contradiction
    · intro c' n' c1' c2' c3' c4' c5' X1 c6'
      have tc3' := nI_tI c3' (by omega)
      have tc4' := nI_tI c4' (by omega)
      obtain rfl : n' = n := by omega
      exact ⟨rfl, _, _, _, _, rfl, R.cf c5 c6' (by decide)⟩
    · intro c' n' c1' c2' c3' c4' c5' X1 c6'
      have tc3' := nI_tI c3' (by omega)
      have tc4' := nI_tI c4' (by omega)
      (try obtain rfl : n' = n := by omega)
      first | (exfalso; omega) | contradiction
  · intro c n c1 c2 c3 c4 c5 S1 c6
    have tc3 := nI_tI c3 (by omega)
    have tc4 := nI_tI c4 (by omega)
    refine ⟨⟨_, rfl⟩, ⟨_, hp_69⟩, ?_⟩
    have K := @r_on S1 N X Y
    rw [e0] at K
    refine K R.wf R.wl ?_ ?_ ?_
    · intro c1' X1 c2'
      first | (exfalso; omega) | contradiction
    · intro c' n' c1' c2' c3' c4' c5' X1 c6'
      have tc3' := nI_tI c3' (by omega)
      have tc4' := nI_tI c4' (by omega)
      (try obtain rfl : c' = c := by omega)
      (try obtain rfl : n' = n := by omega)
      first | (exfalso; omega) | contradiction
    · intro c' n' c1' c2' c3' c4' c5' X1 c6'
      have tc3' := nI_tI c3' (by omega)
      have tc4' := nI_tI c4' (by omega)
      obtain rfl : c' = c := by omega
      obtain rfl : n' = n := by omega
      exact ⟨by rw [ag_2], _, _, _, _, rfl, R.cc c6 c6' R.ww⟩

set_option maxHeartbeats 4000000 in
set_option maxRecDepth 100000 in
theorem p_purseOn {S : St} {N : Nat → Nat → Int64} {X : St} {Y : Nat → Int64} (R : Rel S N X Y) {x z : Int32} : Cn 19 yX3_purseOn cX3_purseOn 3 (some .int) [.ref 0, .int x, .int z] (hp S N X Y) (fun ans h => (∃ z, ans = some (.int z)) ∧ (∃ fs, h 69 = .inr (4, fs)) ∧ Cn 10 yX4_purseOn cX4_purseOn 4 (some .int) [.ref 69, .int x, .int z] h (Pq ans)) := by
  have e0 := R.x0
  have hco := R.wf.co
  have hlo := R.wf.lo
  have hmo := R.wf.mo
  refine c_purseOn R.wf ?_ ?_ ?_
  · intro c1 S1 c2
    refine ⟨⟨_, rfl⟩, ⟨_, hp_69⟩, ?_⟩
    have K := @r_purseOn S1 N X Y
    rw [e0] at K
    refine K R.wf R.wl ?_ ?_ ?_
    · intro c1' X1 c2'
      exact ⟨rfl, _, _, _, _, rfl, R.cf c2 c2' (by decide)⟩
    · intro f' n' c1' c2' c3' c4' c5' X1 c6'
      have tc3' := nI_tI c3' (by omega)
      have tc4' := nI_tI c4' (by omega)
      first | (exfalso; omega) | contradiction
    · intro f' n' c1' c2' c3' c4' c5' X1 c6'
      have tc3' := nI_tI c3' (by omega)
      have tc4' := nI_tI c4' (by omega)
      first | (exfalso; omega) | contradiction
  · intro n c1 c2 c3 c4 S1 c5
    have tc2 := nI_tI c2 (by omega)
    refine ⟨⟨_, rfl⟩, ⟨_, hp_69⟩, ?_⟩
    have K := @r_purseOn S1 N X Y
    rw [e0] at K
    refine K R.wf R.wl ?_ ?_ ?_
    · intro c1' X1 c2'
      first | (exfalso; omega) | contradiction
    · intro f' n' c1' c2' c3' c4' c5' X1 c6'
      have tc3' := nI_tI c3' (by omega)
      have tc4' := nI_tI c4' (by omega)
      obtain rfl : n' = n := by omega
      exact ⟨rfl, _, _, _, _, rfl, R.cf c5 c6' (by decide)⟩
    · intro f' n' c1' c2' c3' c4' c5' X1 c6'
      have tc3' := nI_tI c3' (by omega)
      have tc4' := nI_tI c4' (by omega)
      (try obtain rfl : n' = n := by omega)
      first | (exfalso; omega) | contradiction
  · intro f n c1 c2 c3 c4 c5 S1 c6
    have tc3 := nI_tI c3 (by omega)
    have tc4 := nI_tI c4 (by omega)
    refine ⟨⟨_, rfl⟩, ⟨_, hp_69⟩, ?_⟩
    have K := @r_purseOn S1 N X Y
    rw [e0] at K
    refine K R.wf R.wl ?_ ?_ ?_
    · intro c1' X1 c2'
      first | (exfalso; omega) | contradiction
    · intro f' n' c1' c2' c3' c4' c5' X1 c6'
      have tc3' := nI_tI c3' (by omega)
      have tc4' := nI_tI c4' (by omega)
      (try obtain rfl : f' = f := by omega)
      (try obtain rfl : n' = n := by omega)
      first | (exfalso; omega) | contradiction
    · intro f' n' c1' c2' c3' c4' c5' X1 c6'
      have tc3' := nI_tI c3' (by omega)
      have tc4' := nI_tI c4' (by omega)
      obtain rfl : f' = f := by omega
      obtain rfl : n' = n := by omega
      exact ⟨rfl, _, _, _, _, rfl, R.cc c6 c6' R.ww⟩

set_option maxHeartbeats 4000000 in
set_option maxRecDepth 100000 in
theorem p_rich {S : St} {N : Nat → Nat → Int64} {X : St} {Y : Nat → Int64} (R : Rel S N X Y) {z : Int32} : Cn 19 yX3_rich cX3_rich 2 (some .int) [.ref 0, .int z] (hp S N X Y) (fun ans h => (∃ z, ans = some (.int z)) ∧ (∃ fs, h 69 = .inr (4, fs)) ∧ Cn 10 yX4_rich cX4_rich 4 (some .int) [.ref 69, .int z] h (Pq ans)) := by
  have e0 := R.x0
  have hco := R.wf.co
  have hlo := R.wf.lo
  have hmo := R.wf.mo
  refine c_rich R.wf ?_ ?_ ?_
  · intro c1 S1 c2
    refine ⟨⟨_, rfl⟩, ⟨_, hp_69⟩, ?_⟩
    have K := @r_rich S1 N X Y
    rw [e0] at K
    refine K R.wf R.wl ?_ ?_ ?_
    · intro c1' X1 c2'
      exact ⟨rfl, _, _, _, _, rfl, R.cf c2 c2' (by decide)⟩
    · intro n' c1' c2' c3' X1 c4'
      have tc2' := nI_tI c2' (by omega)
      first | (exfalso; omega) | contradiction
    · intro n' c1' c2' c3' X1 c4'
      have tc2' := nI_tI c2' (by omega)
      first | (exfalso; omega) | contradiction
  · intro n c1 c2 c3 c4 S1 c5
    have tc3 := nI_tI c3 (by omega)
    refine ⟨⟨_, rfl⟩, ⟨_, hp_69⟩, ?_⟩
    have K := @r_rich S1 N X Y
    rw [e0] at K
    refine K R.wf R.wl ?_ ?_ ?_
    · intro c1' X1 c2'
      first | (exfalso; omega) | contradiction
    · intro n' c1' c2' c3' X1 c4'
      have tc2' := nI_tI c2' (by omega)
      obtain rfl : n' = n := by omega
      exact ⟨rfl, _, _, _, _, rfl, R.cf c5 c4' (by decide)⟩
    · intro n' c1' c2' c3' X1 c4'
      have tc2' := nI_tI c2' (by omega)
      (try obtain rfl : n' = n := by omega)
      first | (exfalso; omega) | contradiction
  · intro n c1 c2 c3 S1 c4
    have tc2 := nI_tI c2 (by omega)
    refine ⟨⟨_, rfl⟩, ⟨_, hp_69⟩, ?_⟩
    have K := @r_rich S1 N X Y
    rw [e0] at K
    refine K R.wf R.wl ?_ ?_ ?_
    · intro c1' X1 c2'
      first | (exfalso; omega) | contradiction
    · intro n' c1' c2' c3' X1 c4'
      have tc2' := nI_tI c2' (by omega)
      (try obtain rfl : n' = n := by omega)
      first | (exfalso; omega) | contradiction
    · intro n' c1' c2' c3' X1 c4'
      have tc2' := nI_tI c2' (by omega)
      obtain rfl : n' = n := by omega
      exact ⟨rfl, _, _, _, _, rfl, R.cc c4 c4' R.ww⟩

set_option maxHeartbeats 4000000 in
set_option maxRecDepth 100000 in
theorem p_lacks {S : St} {N : Nat → Nat → Int64} {X : St} {Y : Nat → Int64} (R : Rel S N X Y) {z : Int32} : Cn 19 yX3_lacks cX3_lacks 2 (some .int) [.ref 0, .int z] (hp S N X Y) (fun ans h => (∃ z, ans = some (.int z)) ∧ (∃ fs, h 69 = .inr (4, fs)) ∧ Cn 10 yX4_lacks cX4_lacks 3 (some .int) [.ref 69, .int z] h (Pq ans)) := by
  have e0 := R.x0
  have hco := R.wf.co
  have hlo := R.wf.lo
  have hmo := R.wf.mo
  refine c_lacks R.wf ?_ ?_ ?_
  · intro c1 S1 c2
    refine ⟨⟨_, rfl⟩, ⟨_, hp_69⟩, ?_⟩
    have K := @r_lacks S1 N X Y
    rw [e0] at K
    refine K R.wf R.wl ?_ ?_ ?_
    · intro c1' X1 c2'
      exact ⟨rfl, _, _, _, _, rfl, R.cf c2 c2' (by decide)⟩
    · intro n' c1' c2' c3' X1 c4'
      have tc2' := nI_tI c2' (by omega)
      first | (exfalso; omega) | contradiction
    · intro n' c1' c2' c3' X1 c4'
      have tc2' := nI_tI c2' (by omega)
      first | (exfalso; omega) | contradiction
  · intro n c1 c2 c3 c4 S1 c5
    have tc3 := nI_tI c3 (by omega)
    refine ⟨⟨_, rfl⟩, ⟨_, hp_69⟩, ?_⟩
    have K := @r_lacks S1 N X Y
    rw [e0] at K
    refine K R.wf R.wl ?_ ?_ ?_
    · intro c1' X1 c2'
      first | (exfalso; omega) | contradiction
    · intro n' c1' c2' c3' X1 c4'
      have tc2' := nI_tI c2' (by omega)
      obtain rfl : n' = n := by omega
      exact ⟨rfl, _, _, _, _, rfl, R.cf c5 c4' (by decide)⟩
    · intro n' c1' c2' c3' X1 c4'
      have tc2' := nI_tI c2' (by omega)
      (try obtain rfl : n' = n := by omega)
      first | (exfalso; omega) | contradiction
  · intro n c1 c2 c3 S1 c4
    have tc2 := nI_tI c2 (by omega)
    refine ⟨⟨_, rfl⟩, ⟨_, hp_69⟩, ?_⟩
    have K := @r_lacks S1 N X Y
    rw [e0] at K
    refine K R.wf R.wl ?_ ?_ ?_
    · intro c1' X1 c2'
      first | (exfalso; omega) | contradiction
    · intro n' c1' c2' c3' X1 c4'
      have tc2' := nI_tI c2' (by omega)
      (try obtain rfl : n' = n := by omega)
      first | (exfalso; omega) | contradiction
    · intro n' c1' c2' c3' X1 c4'
      have tc2' := nI_tI c2' (by omega)
      obtain rfl : n' = n := by omega
      exact ⟨rfl, _, _, _, _, rfl, R.cc c4 c4' R.ww⟩

set_option maxHeartbeats 4000000 in
set_option maxRecDepth 100000 in
theorem p_rots {S : St} {N : Nat → Nat → Int64} {X : St} {Y : Nat → Int64} (R : Rel S N X Y) {x : Int32} : Cn 7 yX3_rots cX3_rots 3 (some .int) [.ref 0, .int x] (hp S N X Y) (fun ans h => (∃ z, ans = some (.int z)) ∧ (∃ fs, h 69 = .inr (4, fs)) ∧ Cn 10 yX4_rots cX4_rots 4 (some .int) [.ref 69, .int x] h (Pq ans)) := by
  have e0 := R.x0
  have hco := R.wf.co
  have hlo := R.wf.lo
  have hmo := R.wf.mo
  refine c_rots R.wf ?_ ?_ ?_ ?_
  · intro c1 S1 c2
    refine ⟨⟨_, rfl⟩, ⟨_, hp_69⟩, ?_⟩
    have K := @r_rots S1 N X Y
    rw [e0] at K
    refine K R.wf R.wl ?_ ?_ ?_ ?_
    · intro c1' X1 c2'
      exact ⟨rfl, _, _, _, _, rfl, R.cf c2 c2' (by decide)⟩
    · intro c' c1' c2' c3' X1 c4'
      have tc2' := nI_tI c2' (by omega)
      first | (exfalso; omega) | contradiction
    · intro c' n' c1' c2' c3' c4' c5' c6' X1 c7'
      have tc2' := nI_tI c2' (by omega)
      first | (exfalso; omega) | contradiction
    · intro c' c1' c2' c3' c4' X1 c5'
      have tc2' := nI_tI c2' (by omega)
      first | (exfalso; omega) | contradiction
  · intro c1 c2 S1 c3
    refine ⟨⟨_, rfl⟩, ⟨_, hp_69⟩, ?_⟩
    have K := @r_rots S1 N X Y
    rw [e0] at K
    refine K R.wf R.wl ?_ ?_ ?_ ?_
    · intro c1' X1 c2'
      first | (exfalso; omega) | contradiction
    · intro c' c1' c2' c3' X1 c4'
      have tc2' := nI_tI c2' (by omega)
      exact ⟨rfl, _, _, _, _, rfl, R.cf c3 c4' (by decide)⟩
    · intro c' n' c1' c2' c3' c4' c5' c6' X1 c7'
      have tc2' := nI_tI c2' (by omega)
      first | (exfalso; omega) | contradiction
    · intro c' c1' c2' c3' c4' X1 c5'
      have tc2' := nI_tI c2' (by omega)
      first | (exfalso; omega) | contradiction
  · intro c n c1 c2 c3 c4 c5 c6 S1 c7
    have tc2 := nI_tI c2 (by omega)
    rw [ag_3] at c5
    simp only [ag_3] at c6
    refine ⟨⟨_, rfl⟩, ⟨_, hp_69⟩, ?_⟩
    have K := @r_rots S1 N X Y
    rw [e0] at K
    refine K R.wf R.wl ?_ ?_ ?_ ?_
    · intro c1' X1 c2'
      first | (exfalso; omega) | contradiction
    · intro c' c1' c2' c3' X1 c4'
      have tc2' := nI_tI c2' (by omega)
      (try obtain rfl : c' = c := by omega)
      first | (exfalso; omega) | contradiction
    · intro c' n' c1' c2' c3' c4' c5' c6' X1 c7'
      have tc2' := nI_tI c2' (by omega)
      obtain rfl : c' = c := by omega
      obtain rfl : n' = n := by
        rcases Nat.lt_trichotomy n' n with h | h | h
        · exact absurd c5' (c6 _ h)
        · exact h
        · exact absurd c5 (c6' _ h)
      exact ⟨rfl, _, _, _, _, rfl, R.cc c7 c7' R.ww⟩
    · intro c' c1' c2' c3' c4' X1 c5'
      have tc2' := nI_tI c2' (by omega)
      obtain rfl : c' = c := by omega
      exact absurd c5 (c4' _ c4)
  · intro c c1 c2 c3 c4 S1 c5
    have tc2 := nI_tI c2 (by omega)
    simp only [ag_3] at c4
    refine ⟨⟨_, rfl⟩, ⟨_, hp_69⟩, ?_⟩
    have K := @r_rots S1 N X Y
    rw [e0] at K
    refine K R.wf R.wl ?_ ?_ ?_ ?_
    · intro c1' X1 c2'
      first | (exfalso; omega) | contradiction
    · intro c' c1' c2' c3' X1 c4'
      have tc2' := nI_tI c2' (by omega)
      (try obtain rfl : c' = c := by omega)
      first | (exfalso; omega) | contradiction
    · intro c' n' c1' c2' c3' c4' c5' c6' X1 c7'
      have tc2' := nI_tI c2' (by omega)
      obtain rfl : c' = c := by omega
      exact absurd c5' (c4 _ c4')
    · intro c' c1' c2' c3' c4' X1 c5'
      have tc2' := nI_tI c2' (by omega)
      obtain rfl : c' = c := by omega
      exact ⟨rfl, _, _, _, _, rfl, R.cf c5 c5' (by decide)⟩

set_option maxHeartbeats 4000000 in
set_option maxRecDepth 100000 in
theorem p_when {S : St} {N : Nat → Nat → Int64} {X : St} {Y : Nat → Int64} (R : Rel S N X Y) {x : Int32} : Cn 7 yX3_when cX3_when 6 (some .int) [.ref 0, .int x] (hp S N X Y) (fun ans h => (∃ z, ans = some (.int z)) ∧ (∃ fs, h 69 = .inr (4, fs)) ∧ Cn 10 yX4_when cX4_when 6 (some .int) [.ref 69, .int x] h (Pq ans)) := by
  have e0 := R.x0
  have hco := R.wf.co
  have hlo := R.wf.lo
  have hmo := R.wf.mo
  refine c_when R.wf ?_ ?_ ?_
  · intro c1 S1 c2
    refine ⟨⟨_, rfl⟩, ⟨_, hp_69⟩, ?_⟩
    have K := @r_when S1 N X Y
    rw [e0] at K
    refine K R.wf R.wl ?_ ?_ ?_
    · intro c1' X1 c2'
      exact ⟨rfl, _, _, _, _, rfl, R.cf c2 c2' (by decide)⟩
    · intro c' c1' c2' c3' X1 c4'
      have tc2' := nI_tI c2' (by omega)
      first | (exfalso; omega) | contradiction
    · intro c' c1' c2' c3' X1 c4'
      have tc2' := nI_tI c2' (by omega)
      first | (exfalso; omega) | contradiction
  · intro c1 c2 S1 c3
    refine ⟨⟨_, rfl⟩, ⟨_, hp_69⟩, ?_⟩
    have K := @r_when S1 N X Y
    rw [e0] at K
    refine K R.wf R.wl ?_ ?_ ?_
    · intro c1' X1 c2'
      first | (exfalso; omega) | contradiction
    · intro c' c1' c2' c3' X1 c4'
      have tc2' := nI_tI c2' (by omega)
      exact ⟨rfl, _, _, _, _, rfl, R.cf c3 c4' (by decide)⟩
    · intro c' c1' c2' c3' X1 c4'
      have tc2' := nI_tI c2' (by omega)
      first | (exfalso; omega) | contradiction
  · intro c c1 c2 c3 S1 c4
    have tc2 := nI_tI c2 (by omega)
    refine ⟨⟨_, rfl⟩, ⟨_, hp_69⟩, ?_⟩
    have K := @r_when S1 N X Y
    rw [e0] at K
    refine K R.wf R.wl ?_ ?_ ?_
    · intro c1' X1 c2'
      first | (exfalso; omega) | contradiction
    · intro c' c1' c2' c3' X1 c4'
      have tc2' := nI_tI c2' (by omega)
      (try obtain rfl : c' = c := by omega)
      first | (exfalso; omega) | contradiction
    · intro c' c1' c2' c3' X1 c4'
      have tc2' := nI_tI c2' (by omega)
      obtain rfl : c' = c := by omega
      exact ⟨by simp only [ag_wrt], _, _, _, _, rfl, R.cc c4 c4' R.ww⟩

set_option maxHeartbeats 4000000 in
set_option maxRecDepth 100000 in
theorem p_best {S : St} {N : Nat → Nat → Int64} {X : St} {Y : Nat → Int64} (R : Rel S N X Y) {x z : Int32} : Cn 8 yX3_best cX3_best 6 (some .int) [.ref 0, .int x, .int z] (hp S N X Y) (fun ans h => (∃ z, ans = some (.int z)) ∧ (∃ fs, h 69 = .inr (4, fs)) ∧ Cn 11 yX4_best cX4_best 7 (some .int) [.ref 69, .int x, .int z] h (Pq ans)) := by
  have e0 := R.x0
  have hco := R.wf.co
  have hlo := R.wf.lo
  have hmo := R.wf.mo
  refine c_best R.wf ?_ ?_ ?_
  · intro c1 S1 c2
    refine ⟨⟨_, rfl⟩, ⟨_, hp_69⟩, ?_⟩
    have K := @r_best S1 N X Y
    rw [e0] at K
    refine K R.wf R.wl ?_ ?_ ?_
    · intro c1' X1 c2'
      exact ⟨rfl, _, _, _, _, rfl, R.cf c2 c2' (by decide)⟩
    · intro c' n' c1' c2' c3' c4' c5' c6' X1 c7'
      have tc4' := nI_tI c4' (by omega)
      have tc5' := nI_tI c5' (by omega)
      first | (exfalso; omega) | contradiction
    · intro c' n' c1' c2' c3' c4' c5' c6' c7' X1 c8'
      have tc4' := nI_tI c4' (by omega)
      have tc5' := nI_tI c5' (by omega)
      first | (exfalso; omega) | contradiction
  · intro c n c1 c2 c3 c4 c5 c6 S1 c7
    have tc4 := nI_tI c4 (by omega)
    have tc5 := nI_tI c5 (by omega)
    refine ⟨⟨_, rfl⟩, ⟨_, hp_69⟩, ?_⟩
    have K := @r_best S1 N X Y
    rw [e0] at K
    refine K R.wf R.wl ?_ ?_ ?_
    · intro c1' X1 c2'
      first | (exfalso; omega) | contradiction
    · intro c' n' c1' c2' c3' c4' c5' c6' X1 c7'
      have tc4' := nI_tI c4' (by omega)
      have tc5' := nI_tI c5' (by omega)
      obtain rfl : c' = c := by omega
      obtain rfl : n' = n := by omega
      exact ⟨rfl, _, _, _, _, rfl, R.cf c7 c7' (by decide)⟩
    · intro c' n' c1' c2' c3' c4' c5' c6' c7' X1 c8'
      have tc4' := nI_tI c4' (by omega)
      have tc5' := nI_tI c5' (by omega)
      (try obtain rfl : c' = c := by omega)
      (try obtain rfl : n' = n := by omega)
      first | (exfalso; omega) | contradiction
  · intro c n c1 c2 c3 c4 c5 c6 c7 S1 c8
    have tc4 := nI_tI c4 (by omega)
    have tc5 := nI_tI c5 (by omega)
    refine ⟨⟨_, rfl⟩, ⟨_, hp_69⟩, ?_⟩
    have K := @r_best S1 N X Y
    rw [e0] at K
    refine K R.wf R.wl ?_ ?_ ?_
    · intro c1' X1 c2'
      first | (exfalso; omega) | contradiction
    · intro c' n' c1' c2' c3' c4' c5' c6' X1 c7'
      have tc4' := nI_tI c4' (by omega)
      have tc5' := nI_tI c5' (by omega)
      (try obtain rfl : c' = c := by omega)
      (try obtain rfl : n' = n := by omega)
      first | (exfalso; omega) | contradiction
    · intro c' n' c1' c2' c3' c4' c5' c6' c7' X1 c8'
      have tc4' := nI_tI c4' (by omega)
      have tc5' := nI_tI c5' (by omega)
      obtain rfl : c' = c := by omega
      obtain rfl : n' = n := by omega
      exact ⟨by rw [u2_same _ c6, ag_wrt, ag_wrt], _, _, _, _, rfl, R.cc c8 c8' R.ww⟩

set_option maxHeartbeats 4000000 in
set_option maxRecDepth 100000 in
theorem p_kind {S : St} {N : Nat → Nat → Int64} {X : St} {Y : Nat → Int64} (R : Rel S N X Y) {x z : Int32} : Cn 7 yX3_kind cX3_kind 7 (some .int) [.ref 0, .int x, .int z] (hp S N X Y) (fun ans h => (∃ z, ans = some (.int z)) ∧ (∃ fs, h 69 = .inr (4, fs)) ∧ Cn 11 yX4_kind cX4_kind 7 (some .int) [.ref 69, .int x, .int z] h (Pq ans)) := by
  have e0 := R.x0
  have hco := R.wf.co
  have hlo := R.wf.lo
  have hmo := R.wf.mo
  refine c_kind R.wf ?_ ?_ ?_
  · intro c1 S1 c2
    refine ⟨⟨_, rfl⟩, ⟨_, hp_69⟩, ?_⟩
    have K := @r_kind S1 N X Y
    rw [e0] at K
    refine K R.wf R.wl ?_ ?_ ?_
    · intro c1' X1 c2'
      exact ⟨rfl, _, _, _, _, rfl, R.cf c2 c2' (by decide)⟩
    · intro n' c1' c2' c3' c4' c5' X1 c6'
      have tc3' := nI_tI c3' (by omega)
      first | (exfalso; omega) | contradiction
    · intro c' n' c1' c2' c3' c4' c5' c6' X1 c7'
      have tc4' := nI_tI c4' (by omega)
      have tc5' := nI_tI c5' (by omega)
      first | (exfalso; omega) | contradiction
  · intro n c1 c2 c3 c4 c5 S1 c6
    have tc3 := nI_tI c3 (by omega)
    refine ⟨⟨_, rfl⟩, ⟨_, hp_69⟩, ?_⟩
    have K := @r_kind S1 N X Y
    rw [e0] at K
    refine K R.wf R.wl ?_ ?_ ?_
    · intro c1' X1 c2'
      first | (exfalso; omega) | contradiction
    · intro n' c1' c2' c3' c4' c5' X1 c6'
      have tc3' := nI_tI c3' (by omega)
      obtain rfl : n' = n := by omega
      exact ⟨rfl, _, _, _, _, rfl, R.cf c6 c6' (by decide)⟩
    · intro c' n' c1' c2' c3' c4' c5' c6' X1 c7'
      have tc4' := nI_tI c4' (by omega)
      have tc5' := nI_tI c5' (by omega)
      (try obtain rfl : n' = n := by omega)
      first | (exfalso; omega) | contradiction
  · intro c n c1 c2 c3 c4 c5 c6 S1 c7
    have tc4 := nI_tI c4 (by omega)
    have tc5 := nI_tI c5 (by omega)
    refine ⟨⟨_, rfl⟩, ⟨_, hp_69⟩, ?_⟩
    have K := @r_kind S1 N X Y
    rw [e0] at K
    refine K R.wf R.wl ?_ ?_ ?_
    · intro c1' X1 c2'
      first | (exfalso; omega) | contradiction
    · intro n' c1' c2' c3' c4' c5' X1 c6'
      have tc3' := nI_tI c3' (by omega)
      (try obtain rfl : n' = n := by omega)
      first | (exfalso; omega) | contradiction
    · intro c' n' c1' c2' c3' c4' c5' c6' X1 c7'
      have tc4' := nI_tI c4' (by omega)
      have tc5' := nI_tI c5' (by omega)
      obtain rfl : c' = c := by omega
      obtain rfl : n' = n := by omega
      exact ⟨by simp only [ag_wrt], _, _, _, _, rfl, R.cc c7 c7' R.ww⟩

set_option maxHeartbeats 4000000 in
set_option maxRecDepth 100000 in
theorem p_cellar {S : St} {N : Nat → Nat → Int64} {X : St} {Y : Nat → Int64} (R : Rel S N X Y) {z : Int32} : Cn 8 yX3_cellar cX3_cellar 7 (some .int) [.ref 0, .int z] (hp S N X Y) (fun ans h => (∃ z, ans = some (.int z)) ∧ (∃ fs, h 69 = .inr (4, fs)) ∧ Cn 11 yX4_cellar cX4_cellar 7 (some .int) [.ref 69, .int z] h (Pq ans)) := by
  have e0 := R.x0
  have hco := R.wf.co
  have hlo := R.wf.lo
  have hmo := R.wf.mo
  refine c_cellar R.wf ?_ ?_ ?_ ?_
  · intro c1 S1 c2
    refine ⟨⟨_, rfl⟩, ⟨_, hp_69⟩, ?_⟩
    have K := @r_cellar S1 N X Y
    rw [e0] at K
    refine K R.wf R.wl ?_ ?_ ?_ ?_
    · intro c1' X1 c2'
      exact ⟨rfl, _, _, _, _, rfl, R.cf c2 c2' (by decide)⟩
    · intro n' c1' c2' c3' c4' X1 c5'
      have tc3' := nI_tI c3' (by omega)
      first | (exfalso; omega) | contradiction
    · intro n' c1' c2' c3' c4' c5' X1 c6'
      have tc3' := nI_tI c3' (by omega)
      first | (exfalso; omega) | contradiction
    · intro n' c1' c2' c3' c4' c5' X1 c6'
      have tc3' := nI_tI c3' (by omega)
      first | (exfalso; omega) | contradiction
  · intro n c1 c2 c3 c4 S1 c5
    have tc3 := nI_tI c3 (by omega)
    refine ⟨⟨_, rfl⟩, ⟨_, hp_69⟩, ?_⟩
    have K := @r_cellar S1 N X Y
    rw [e0] at K
    refine K R.wf R.wl ?_ ?_ ?_ ?_
    · intro c1' X1 c2'
      first | (exfalso; omega) | contradiction
    · intro n' c1' c2' c3' c4' X1 c5'
      have tc3' := nI_tI c3' (by omega)
      obtain rfl : n' = n := by omega
      exact ⟨rfl, _, _, _, _, rfl, R.cf c5 c5' (by decide)⟩
    · intro n' c1' c2' c3' c4' c5' X1 c6'
      have tc3' := nI_tI c3' (by omega)
      (try obtain rfl : n' = n := by omega)
      first | (exfalso; omega) | contradiction
    · intro n' c1' c2' c3' c4' c5' X1 c6'
      have tc3' := nI_tI c3' (by omega)
      (try obtain rfl : n' = n := by omega)
      first | (exfalso; omega) | contradiction
  · intro n c1 c2 c3 c4 c5 S1 c6
    have tc3 := nI_tI c3 (by omega)
    simp only [ag_many] at c5
    refine ⟨⟨_, rfl⟩, ⟨_, hp_69⟩, ?_⟩
    have K := @r_cellar S1 N X Y
    rw [e0] at K
    refine K R.wf R.wl ?_ ?_ ?_ ?_
    · intro c1' X1 c2'
      first | (exfalso; omega) | contradiction
    · intro n' c1' c2' c3' c4' X1 c5'
      have tc3' := nI_tI c3' (by omega)
      (try obtain rfl : n' = n := by omega)
      first | (exfalso; omega) | contradiction
    · intro n' c1' c2' c3' c4' c5' X1 c6'
      have tc3' := nI_tI c3' (by omega)
      obtain rfl : n' = n := by omega
      exact ⟨by simp only [ag_many], _, _, _, _, rfl, R.cc c6 c6' R.ww⟩
    · intro n' c1' c2' c3' c4' c5' X1 c6'
      have tc3' := nI_tI c3' (by omega)
      obtain rfl : n' = n := by omega
      exact absurd c5' c5
  · intro n c1 c2 c3 c4 c5 S1 c6
    have tc3 := nI_tI c3 (by omega)
    simp only [ag_many] at c5
    refine ⟨⟨_, rfl⟩, ⟨_, hp_69⟩, ?_⟩
    have K := @r_cellar S1 N X Y
    rw [e0] at K
    refine K R.wf R.wl ?_ ?_ ?_ ?_
    · intro c1' X1 c2'
      first | (exfalso; omega) | contradiction
    · intro n' c1' c2' c3' c4' X1 c5'
      have tc3' := nI_tI c3' (by omega)
      (try obtain rfl : n' = n := by omega)
      first | (exfalso; omega) | contradiction
    · intro n' c1' c2' c3' c4' c5' X1 c6'
      have tc3' := nI_tI c3' (by omega)
      obtain rfl : n' = n := by omega
      exact absurd c5 c5'
    · intro n' c1' c2' c3' c4' c5' X1 c6'
      have tc3' := nI_tI c3' (by omega)
      obtain rfl : n' = n := by omega
      exact ⟨rfl, _, _, _, _, rfl, R.cf c6 c6' (by decide)⟩

set_option maxHeartbeats 4000000 in
set_option maxRecDepth 100000 in
theorem p_field {S : St} {N : Nat → Nat → Int64} {X : St} {Y : Nat → Int64} (R : Rel S N X Y) {x z : Int32} : Cn 20 yX3_field cX3_field 9 (some .int) [.ref 0, .int x, .int z] (hp S N X Y) (fun ans h => (∃ z, ans = some (.int z)) ∧ (∃ fs, h 69 = .inr (4, fs)) ∧ Cn 11 yX4_field cX4_field 8 (some .int) [.ref 69, .int x, .int z] h (Pq ans)) := by
  have e0 := R.x0
  have hco := R.wf.co
  have hlo := R.wf.lo
  have hmo := R.wf.mo
  refine c_field R.wf ?_ ?_ ?_ ?_
  · intro c1 S1 c2
    refine ⟨⟨_, rfl⟩, ⟨_, hp_69⟩, ?_⟩
    have K := @r_field S1 N X Y
    rw [e0] at K
    refine K R.wf R.wl ?_ ?_ ?_ ?_
    · intro c1' X1 c2'
      exact ⟨rfl, _, _, _, _, rfl, R.cf c2 c2' (by decide)⟩
    · intro n' c1' c2' c3' c4' c5' X1 c6'
      have tc3' := nI_tI c3' (by omega)
      first | (exfalso; omega) | contradiction
    · intro f' n' c1' c2' c3' c4' c5' c6' c7' c8' X1 c9'
      have tc4' := nI_tI c4' (by omega)
      have tc5' := nI_tI c5' (by omega)
      first | (exfalso; omega) | contradiction
    · intro f' n' c1' c2' c3' c4' c5' c6' c7' c8' X1 c9'
      have tc4' := nI_tI c4' (by omega)
      have tc5' := nI_tI c5' (by omega)
      first | (exfalso; omega) | contradiction
  · intro n c1 c2 c3 c4 c5 S1 c6
    have tc3 := nI_tI c3 (by omega)
    refine ⟨⟨_, rfl⟩, ⟨_, hp_69⟩, ?_⟩
    have K := @r_field S1 N X Y
    rw [e0] at K
    refine K R.wf R.wl ?_ ?_ ?_ ?_
    · intro c1' X1 c2'
      first | (exfalso; omega) | contradiction
    · intro n' c1' c2' c3' c4' c5' X1 c6'
      have tc3' := nI_tI c3' (by omega)
      obtain rfl : n' = n := by omega
      exact ⟨rfl, _, _, _, _, rfl, R.cf c6 c6' (by decide)⟩
    · intro f' n' c1' c2' c3' c4' c5' c6' c7' c8' X1 c9'
      have tc4' := nI_tI c4' (by omega)
      have tc5' := nI_tI c5' (by omega)
      (try obtain rfl : n' = n := by omega)
      first | (exfalso; omega) | contradiction
    · intro f' n' c1' c2' c3' c4' c5' c6' c7' c8' X1 c9'
      have tc4' := nI_tI c4' (by omega)
      have tc5' := nI_tI c5' (by omega)
      (try obtain rfl : n' = n := by omega)
      first | (exfalso; omega) | contradiction
  · intro f n c1 c2 c3 c4 c5 c6 c7 c8 S1 c9
    have tc4 := nI_tI c4 (by omega)
    have tc5 := nI_tI c5 (by omega)
    refine ⟨⟨_, rfl⟩, ⟨_, hp_69⟩, ?_⟩
    have K := @r_field S1 N X Y
    rw [e0] at K
    refine K R.wf R.wl ?_ ?_ ?_ ?_
    · intro c1' X1 c2'
      first | (exfalso; omega) | contradiction
    · intro n' c1' c2' c3' c4' c5' X1 c6'
      have tc3' := nI_tI c3' (by omega)
      (try obtain rfl : n' = n := by omega)
      first | (exfalso; omega) | contradiction
    · intro f' n' c1' c2' c3' c4' c5' c6' c7' c8' X1 c9'
      have tc4' := nI_tI c4' (by omega)
      have tc5' := nI_tI c5' (by omega)
      obtain rfl : f' = f := by omega
      obtain rfl : n' = n := by omega
      exact ⟨rfl, _, _, _, _, rfl, R.cf c9 c9' (by decide)⟩
    · intro f' n' c1' c2' c3' c4' c5' c6' c7' c8' X1 c9'
      have tc4' := nI_tI c4' (by omega)
      have tc5' := nI_tI c5' (by omega)
      (try obtain rfl : f' = f := by omega)
      (try obtain rfl : n' = n := by omega)
      first | (exfalso; omega) | contradiction
  · intro f n c1 c2 c3 c4 c5 c6 c7 c8 S1 c9
    have tc4 := nI_tI c4 (by omega)
    have tc5 := nI_tI c5 (by omega)
    refine ⟨⟨_, rfl⟩, ⟨_, hp_69⟩, ?_⟩
    have K := @r_field S1 N X Y
    rw [e0] at K
    refine K R.wf R.wl ?_ ?_ ?_ ?_
    · intro c1' X1 c2'
      first | (exfalso; omega) | contradiction
    · intro n' c1' c2' c3' c4' c5' X1 c6'
      have tc3' := nI_tI c3' (by omega)
      (try obtain rfl : n' = n := by omega)
      first | (exfalso; omega) | contradiction
    · intro f' n' c1' c2' c3' c4' c5' c6' c7' c8' X1 c9'
      have tc4' := nI_tI c4' (by omega)
      have tc5' := nI_tI c5' (by omega)
      (try obtain rfl : f' = f := by omega)
      (try obtain rfl : n' = n := by omega)
      first | (exfalso; omega) | contradiction
    · intro f' n' c1' c2' c3' c4' c5' c6' c7' c8' X1 c9'
      have tc4' := nI_tI c4' (by omega)
      have tc5' := nI_tI c5' (by omega)
      obtain rfl : f' = f := by omega
      obtain rfl : n' = n := by omega
      exact ⟨rfl, _, _, _, _, rfl, R.cc c9 c9' R.ww⟩

set_option maxHeartbeats 4000000 in
set_option maxRecDepth 100000 in
theorem p_priceFor {S : St} {N : Nat → Nat → Int64} {X : St} {Y : Nat → Int64} (R : Rel S N X Y) {x z : Int32} : Cn 5 yX3_priceFor cX3_priceFor 4 (some .int) [.ref 0, .int x, .int z] (hp S N X Y) (fun ans h => (∃ z, ans = some (.int z)) ∧ (∃ fs, h 69 = .inr (4, fs)) ∧ Cn 4 yX4_priceFor cX4_priceFor 7 (some .int) [.ref 69, .int x, .int z] h (Pq ans)) := by
  have e0 := R.x0
  have hco := R.wf.co
  have hlo := R.wf.lo
  have hmo := R.wf.mo
  refine c_priceFor R.wf ?_ ?_ ?_
  · intro c1 S1 c2
    refine ⟨⟨_, rfl⟩, ⟨_, hp_69⟩, ?_⟩
    have K := @r_priceFor S1 N X Y
    rw [e0] at K
    refine K R.wf ?_ ?_ ?_
    · intro c1' X1 c2'
      exact ⟨rfl, _, _, _, _, rfl, R.cf c2 c2' (by decide)⟩
    · intro f' v' p' c1' c2' c3' c4' c5' c6' c7' X1 c8'
      have tc3' := nI_tI c3' (by omega)
      have tc4' := nI_tI c4' (by omega)
      first | (exfalso; omega) | contradiction
    · intro f' v' c1' c2' c3' c4' c5' X1 c6'
      have tc3' := nI_tI c3' (by omega)
      have tc4' := nI_tI c4' (by omega)
      first | (exfalso; omega) | contradiction
  · intro f v p c1 c2 c3 c4 c5 c6 c7 S1 c8
    have tc3 := nI_tI c3 (by omega)
    have tc4 := nI_tI c4 (by omega)
    refine ⟨⟨_, rfl⟩, ⟨_, hp_69⟩, ?_⟩
    have K := @r_priceFor S1 N X Y
    rw [e0] at K
    refine K R.wf ?_ ?_ ?_
    · intro c1' X1 c2'
      first | (exfalso; omega) | contradiction
    · intro f' v' p' c1' c2' c3' c4' c5' c6' c7' X1 c8'
      have tc3' := nI_tI c3' (by omega)
      have tc4' := nI_tI c4' (by omega)
      obtain rfl : f' = f := by omega
      obtain rfl : v' = v := by omega
      obtain rfl : p' = p := by
        rcases Nat.lt_trichotomy p' p with h | h | h
        · exact absurd c6' (c7 _ h)
        · exact h
        · exact absurd c6 (c7' _ h)
      exact ⟨rfl, _, _, _, _, rfl, R.cc c8 c8' R.ww⟩
    · intro f' v' c1' c2' c3' c4' c5' X1 c6'
      have tc3' := nI_tI c3' (by omega)
      have tc4' := nI_tI c4' (by omega)
      obtain rfl : f' = f := by omega
      obtain rfl : v' = v := by omega
      exact absurd c6 (c5' _ c5)
  · intro f v c1 c2 c3 c4 c5 S1 c6
    have tc3 := nI_tI c3 (by omega)
    have tc4 := nI_tI c4 (by omega)
    refine ⟨⟨_, rfl⟩, ⟨_, hp_69⟩, ?_⟩
    have K := @r_priceFor S1 N X Y
    rw [e0] at K
    refine K R.wf ?_ ?_ ?_
    · intro c1' X1 c2'
      first | (exfalso; omega) | contradiction
    · intro f' v' p' c1' c2' c3' c4' c5' c6' c7' X1 c8'
      have tc3' := nI_tI c3' (by omega)
      have tc4' := nI_tI c4' (by omega)
      obtain rfl : f' = f := by omega
      obtain rfl : v' = v := by omega
      exact absurd c6' (c5 _ c5')
    · intro f' v' c1' c2' c3' c4' c5' X1 c6'
      have tc3' := nI_tI c3' (by omega)
      have tc4' := nI_tI c4' (by omega)
      obtain rfl : f' = f := by omega
      obtain rfl : v' = v := by omega
      exact ⟨rfl, _, _, _, _, rfl, R.cf c6 c6' (by decide)⟩

set_option maxHeartbeats 4000000 in
set_option maxRecDepth 100000 in
theorem p_taxMonth {S : St} {N : Nat → Nat → Int64} {X : St} {Y : Nat → Int64} (R : Rel S N X Y)  : Cn 19 yX3_taxMonth cX3_taxMonth 5 (some .int) [.ref 0] (hp S N X Y) (fun ans h => (∃ z, ans = some (.int z)) ∧ (∃ fs, h 69 = .inr (4, fs)) ∧ Cn 10 yX4_taxMonth cX4_taxMonth 6 (some .int) [.ref 69] h (Pq ans)) := by
  have e0 := R.x0
  have hco := R.wf.co
  have hlo := R.wf.lo
  have hmo := R.wf.mo
  refine c_taxMonth R.wf ?_ ?_
  · intro c1 S1 c2
    refine ⟨⟨_, rfl⟩, ⟨_, hp_69⟩, ?_⟩
    have K := @r_taxMonth S1 N X Y
    rw [e0] at K
    refine K R.wf R.wl ?_ ?_
    · intro c1' X1 c2'
      exact ⟨rfl, _, _, _, _, rfl, R.cf c2 c2' (by decide)⟩
    · intro c1' X1 c2'
      first | (exfalso; omega) | contradiction
  · intro c1 S1 c2
    refine ⟨⟨_, rfl⟩, ⟨_, hp_69⟩, ?_⟩
    have K := @r_taxMonth S1 N X Y
    rw [e0] at K
    refine K R.wf R.wl ?_ ?_
    · intro c1' X1 c2'
      first | (exfalso; omega) | contradiction
    · intro c1' X1 c2'
      exact ⟨by rw [tm_all R.wf (by omega)], _, _, _, _, rfl, R.cc c2 c2' R.ww⟩

set_option maxHeartbeats 4000000 in
set_option maxRecDepth 100000 in
theorem p_bank {S : St} {N : Nat → Nat → Int64} {X : St} {Y : Nat → Int64} (R : Rel S N X Y)  : Cn 4 yX3_bank cX3_bank 2 (some .int) [.ref 0] (hp S N X Y) (fun ans h => (∃ z, ans = some (.int z)) ∧ (∃ fs, h 69 = .inr (4, fs)) ∧ Cn 4 yX4_bank cX4_bank 3 (some .int) [.ref 69] h (Pq ans)) := by
  have e0 := R.x0
  have hco := R.wf.co
  have hlo := R.wf.lo
  have hmo := R.wf.mo
  have hb : (bl (S 0) (rch (bl (S 0)) 3) = 0 → mbl (bl (S 0)) 4 = 0) ∧ (bl (S 0) (rch (bl (S 0)) 3) ≠ 0 → mbl (bl (S 0)) 4 = rch (bl (S 0)) 3 + 1) := mbl_rch (bl (S 0)) 3
  refine c_bank R.wf ?_ ?_
  · intro c1 S1 c2
    refine ⟨⟨_, rfl⟩, ⟨_, hp_69⟩, ?_⟩
    have K := @r_bank S1 N X Y
    rw [e0] at K
    refine K R.wf ?_ ?_
    · intro c1' X1 c2'
      exact ⟨rfl, _, _, _, _, rfl, R.cf c2 c2' (by decide)⟩
    · intro c1'
      first | (exfalso; omega) | contradiction
  · intro c1
    refine ⟨⟨_, rfl⟩, ⟨_, hp_69⟩, ?_⟩
    have K := @r_bank S N X Y
    rw [e0] at K
    refine K R.wf ?_ ?_
    · intro c1' X1 c2'
      first | (exfalso; omega) | contradiction
    · intro c1'
      exact ⟨by rw [show mbl (bl (S 0)) 4 - 1 = rch (bl (S 0)) 3 by omega], _, _, _, _, rfl, R⟩

set_option maxHeartbeats 4000000 in
set_option maxRecDepth 100000 in
theorem p_count {S : St} {N : Nat → Nat → Int64} {X : St} {Y : Nat → Int64} (R : Rel S N X Y) {w : Int32} : Cn 2 yX3_count cX3_count 2 (some .int) [.ref 0, .int w] (hp S N X Y) (fun ans h => (∃ z, ans = some (.int z)) ∧ (∃ fs, h 69 = .inr (4, fs)) ∧ Cn 2 yX4_count cX4_count 4 (some .int) [.ref 69, .int w] h (Pq ans)) := by
  have e0 := R.x0
  have hco := R.wf.co
  have hlo := R.wf.lo
  have hmo := R.wf.mo
  refine c_count R.wf ?_ ?_
  · intro c1 S1 c2
    refine ⟨⟨_, rfl⟩, ⟨_, hp_69⟩, ?_⟩
    have K := @r_count S1 N X Y
    rw [e0, R.tl] at K
    refine K R.wf ?_ ?_
    · intro c1' X1 c2'
      exact ⟨rfl, _, _, _, _, rfl, R.cf c2 c2' (by decide)⟩
    · intro j' c1' c2'
      have tc2' := nI_tI c2' (by omega)
      first | (exfalso; omega) | contradiction
  · intro j c1 c2
    have tc2 := nI_tI c2 (by omega)
    refine ⟨⟨_, rfl⟩, ⟨_, hp_69⟩, ?_⟩
    have K := @r_count S N X Y
    rw [e0, R.tl] at K
    refine K R.wf ?_ ?_
    · intro c1' X1 c2'
      first | (exfalso; omega) | contradiction
    · intro j' c1' c2'
      have tc2' := nI_tI c2' (by omega)
      obtain rfl : j' = j := by omega
      exact ⟨rfl, _, _, _, _, rfl, R⟩

set_option maxHeartbeats 4000000 in
set_option maxRecDepth 100000 in
theorem p_status {S : St} {N : Nat → Nat → Int64} {X : St} {Y : Nat → Int64} (R : Rel S N X Y) {w : Int32} : Cn 3 yX3_status cX3_status 4 (some .int) [.ref 0, .int w] (hp S N X Y) (fun ans h => (∃ z, ans = some (.int z)) ∧ (∃ fs, h 69 = .inr (4, fs)) ∧ Cn 2 yX4_status cX4_status 2 (some .int) [.ref 69, .int w] h (Pq ans)) := by
  have e0 := R.x0
  have hco := R.wf.co
  have hlo := R.wf.lo
  have hmo := R.wf.mo
  refine c_status ?_ ?_ ?_
  · intro c1 S1 c2
    refine ⟨⟨_, rfl⟩, ⟨_, hp_69⟩, ?_⟩
    have K := @r_status S1 N X Y
    skip
    refine K ?_ ?_ ?_
    · intro c1' X1 c2'
      exact ⟨rfl, _, _, _, _, rfl, R.cf c2 c2' (by decide)⟩
    · intro c1'
      have tw' : w.toInt = -1 := by rw [c1']; decide
      exfalso; omega
    · intro j' c1' c2'
      have tc2' := nI_tI c2' (by omega)
      first | (exfalso; omega) | contradiction
  · intro c1
    have tw : w.toInt = -1 := by rw [c1]; decide
    refine ⟨⟨_, rfl⟩, ⟨_, hp_69⟩, ?_⟩
    have K := @r_status S N X Y
    skip
    refine K ?_ ?_ ?_
    · intro c1' X1 c2'
      first | (exfalso; omega) | contradiction
    · intro c1'
      exact ⟨by rw [R.fa], _, _, _, _, rfl, R⟩
    · intro j' c1' c2'
      have tc2' := nI_tI c2' (by omega)
      first | (exfalso; omega) | contradiction
  · intro j c1 c2
    have tc2 := nI_tI c2 (by omega)
    refine ⟨⟨_, rfl⟩, ⟨_, hp_69⟩, ?_⟩
    have K := @r_status S N X Y
    skip
    refine K ?_ ?_ ?_
    · intro c1' X1 c2'
      first | (exfalso; omega) | contradiction
    · intro c1'
      have tw' : w.toInt = -1 := by rw [c1']; decide
      exfalso; omega
    · intro j' c1' c2'
      have tc2' := nI_tI c2' (by omega)
      obtain rfl : j' = j := by omega
      exact ⟨by rw [R.f7 _ (by omega)], _, _, _, _, rfl, R⟩
