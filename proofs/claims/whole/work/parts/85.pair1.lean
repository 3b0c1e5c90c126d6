set_option maxHeartbeats 4000000 in
set_option maxRecDepth 100000 in
theorem p_soil {S : St} {N : Nat → Nat → Int64} {X : St} {Y : Nat → Int64} (R : Rel S N X Y) {x v : Int32} : Cn 3 yX3_soil cX3_soil 4 (some .int) [.ref 0, .int x, .int v] (hp S N X Y) (fun ans h => (∃ z, ans = some (.int z)) ∧ (∃ fs, h 69 = .inr (4, fs)) ∧ Cn 3 yX4_soil cX4_soil 3 (some .int) [.ref 69, .int x, .int v] h (Pq ans)) := by
  have e0 := R.x0
  have hco := R.wf.co
  have hlo := R.wf.lo
  have hmo := R.wf.mo
  refine c_soil R.wf ?_ ?_
  · intro c1 S1 c2
    refine ⟨⟨_, rfl⟩, ⟨_, hp_69⟩, ?_⟩
    have K := @r_soil S1 N X Y
    rw [e0] at K
    refine K R.wf ?_ ?_
    · intro c1' X1 c2'
      exact ⟨rfl, _, _, _, _, rfl, R.cf c2 c2' (by decide)⟩
    · intro i' j' c1' c2' c3' c4' X1 c5'
      have tc3' := nI_tI c3' (by omega)
      have tc4' := nI_tI c4' (by omega)
      first | (exfalso; omega) | contradiction
  · intro i j c1 c2 c3 c4 S1 c5
    have tc3 := nI_tI c3 (by omega)
    have tc4 := nI_tI c4 (by omega)
    refine ⟨⟨_, rfl⟩, ⟨_, hp_69⟩, ?_⟩
    have K := @r_soil S1 N X Y
    rw [e0] at K
    refine K R.wf ?_ ?_
    · intro c1' X1 c2'
      first | (exfalso; omega) | contradiction
    · intro i' j' c1' c2' c3' c4' X1 c5'
      have tc3' := nI_tI c3' (by omega)
      have tc4' := nI_tI c4' (by omega)
      obtain rfl : i' = i := by omega
      obtain rfl : j' = j := by omega
      exact ⟨rfl, _, _, _, _, rfl, R.cc c5 c5' ⟨R.wf.upd (by omega), wl_u2 R.wl (by decide) (by decide)⟩⟩

set_option maxHeartbeats 4000000 in
set_option maxRecDepth 100000 in
theorem p_price {S : St} {N : Nat → Nat → Int64} {X : St} {Y : Nat → Int64} (R : Rel S N X Y) {x v : Int32} : Cn 3 yX3_price cX3_price 4 (some .int) [.ref 0, .int x, .int v] (hp S N X Y) (fun ans h => (∃ z, ans = some (.int z)) ∧ (∃ fs, h 69 = .inr (4, fs)) ∧ Cn 3 yX4_price cX4_price 3 (some .int) [.ref 69, .int x, .int v] h (Pq ans)) := by
  have e0 := R.x0
  have hco := R.wf.co
  have hlo := R.wf.lo
  have hmo := R.wf.mo
  refine c_price R.wf ?_ ?_
  · intro c1 S1 c2
    refine ⟨⟨_, rfl⟩, ⟨_, hp_69⟩, ?_⟩
    have K := @r_price S1 N X Y
    rw [e0] at K
    refine K R.wf ?_ ?_
    · intro c1' X1 c2'
      exact ⟨rfl, _, _, _, _, rfl, R.cf c2 c2' (by decide)⟩
    · intro i' j' c1' c2' c3' c4' X1 c5'
      have tc3' := nI_tI c3' (by omega)
      have tc4' := nI_tI c4' (by omega)
      first | (exfalso; omega) | contradiction
  · intro i j c1 c2 c3 c4 S1 c5
    have tc3 := nI_tI c3 (by omega)
    have tc4 := nI_tI c4 (by omega)
    refine ⟨⟨_, rfl⟩, ⟨_, hp_69⟩, ?_⟩
    have K := @r_price S1 N X Y
    rw [e0] at K
    refine K R.wf ?_ ?_
    · intro c1' X1 c2'
      first | (exfalso; omega) | contradiction
    · intro i' j' c1' c2' c3' c4' X1 c5'
      have tc3' := nI_tI c3' (by omega)
      have tc4' := nI_tI c4' (by omega)
      obtain rfl : i' = i := by omega
      obtain rfl : j' = j := by omega
      exact ⟨rfl, _, _, _, _, rfl, R.cc c5 c5' ⟨R.wf.upd (by omega), wl_u2 R.wl (by decide) (by decide)⟩⟩

set_option maxHeartbeats 4000000 in
set_option maxRecDepth 100000 in
theorem p_coin {S : St} {N : Nat → Nat → Int64} {X : St} {Y : Nat → Int64} (R : Rel S N X Y) {x y v : Int32} : Cn 3 yX3_coin cX3_coin 4 (some .int) [.ref 0, .int x, .int y, .int v] (hp S N X Y) (fun ans h => (∃ z, ans = some (.int z)) ∧ (∃ fs, h 69 = .inr (4, fs)) ∧ Cn 3 yX4_coin cX4_coin 4 (some .int) [.ref 69, .int x, .int y, .int v] h (Pq ans)) := by
  have e0 := R.x0
  have hco := R.wf.co
  have hlo := R.wf.lo
  have hmo := R.wf.mo
  refine c_coin R.wf ?_ ?_ ?_
  · intro c1 S1 c2
    refine ⟨⟨_, rfl⟩, ⟨_, hp_69⟩, ?_⟩
    have K := @r_coin S1 N X Y
    rw [e0] at K
    refine K R.wf ?_ ?_ ?_
    · intro c1' X1 c2'
      exact ⟨rfl, _, _, _, _, rfl, R.cf c2 c2' (by decide)⟩
    · intro c1' c2' X1 c3'
      first | (exfalso; omega) | contradiction
    · intro c1' a' b' c' c2' c3' c4' c5' c6' c7' X1 c8'
      have tc5' := nI_tI c5' (by omega)
      have tc6' := nI_tI c6' (by omega)
      have tc7' := nI_tI c7' (by omega)
      first | (exfalso; omega) | contradiction
  · intro c1 c2 S1 c3
    refine ⟨⟨_, rfl⟩, ⟨_, hp_69⟩, ?_⟩
    have K := @r_coin S1 N X Y
    rw [e0] at K
    refine K R.wf ?_ ?_ ?_
    · intro c1' X1 c2'
      first | (exfalso; omega) | contradiction
    · intro c1' c2' X1 c3'
      exact ⟨rfl, _, _, _, _, rfl, R.cf c3 c3' (by decide)⟩
    · intro c1' a' b' c' c2' c3' c4' c5' c6' c7' X1 c8'
      have tc5' := nI_tI c5' (by omega)
      have tc6' := nI_tI c6' (by omega)
      have tc7' := nI_tI c7' (by omega)
      first | (exfalso; omega) | contradiction
  · intro c1 a b c c2 c3 c4 c5 c6 c7 S1 c8
    have tc5 := nI_tI c5 (by omega)
    have tc6 := nI_tI c6 (by omega)
    have tc7 := nI_tI c7 (by omega)
    refine ⟨⟨_, rfl⟩, ⟨_, hp_69⟩, ?_⟩
    have K := @r_coin S1 N X Y
    rw [e0] at K
    refine K R.wf ?_ ?_ ?_
    · intro c1' X1 c2'
      first | (exfalso; omega) | contradiction
    · intro c1' c2' X1 c3'
      first | (exfalso; omega) | contradiction
    · intro c1' a' b' c' c2' c3' c4' c5' c6' c7' X1 c8'
      have tc5' := nI_tI c5' (by omega)
      have tc6' := nI_tI c6' (by omega)
      have tc7' := nI_tI c7' (by omega)
      obtain rfl : a' = a := by omega
      obtain rfl : b' = b := by omega
      obtain rfl : c' = c := by omega
      exact ⟨rfl, _, _, _, _, rfl, R.cc c8 c8' ⟨wf_addC R.wf (by omega) (by omega) (by omega) (by omega) (by omega), wl_addC R.wl _ _ _ _⟩⟩

set_option maxHeartbeats 4000000 in
set_option maxRecDepth 100000 in
theorem p_of {S : St} {N : Nat → Nat → Int64} {X : St} {Y : Nat → Int64} (R : Rel S N X Y) {x w : Int32} : Cn 4 yX3_of cX3_of 3 (some .int) [.ref 0, .int x, .int w] (hp S N X Y) (fun ans h => (∃ z, ans = some (.int z)) ∧ (∃ fs, h 69 = .inr (4, fs)) ∧ Cn 4 yX4_of cX4_of 3 (some .int) [.ref 69, .int x, .int w] h (Pq ans)) := by
  have e0 := R.x0
  have hco := R.wf.co
  have hlo := R.wf.lo
  have hmo := R.wf.mo
  refine c_of R.wf ?_ ?_
  · intro c1 S1 c2
    refine ⟨⟨_, rfl⟩, ⟨_, hp_69⟩, ?_⟩
    have K := @r_of S1 N X Y
    rw [e0] at K
    refine K R.wf ?_ ?_
    · intro c1' X1 c2'
      exact ⟨rfl, _, _, _, _, rfl, R.cf c2 c2' (by decide)⟩
    · intro c' j' c1' c2' c3' c4'
      have tc3' := nI_tI c3' (by omega)
      have tc4' := nI_tI c4' (by omega)
      first | (exfalso; omega) | contradiction
  · intro c j c1 c2 c3 c4
    have tc3 := nI_tI c3 (by omega)
    have tc4 := nI_tI c4 (by omega)
    refine ⟨⟨_, rfl⟩, ⟨_, hp_69⟩, ?_⟩
    have K := @r_of S N X Y
    rw [e0] at K
    refine K R.wf ?_ ?_
    · intro c1' X1 c2'
      first | (exfalso; omega) | contradiction
    · intro c' j' c1' c2' c3' c4'
      have tc3' := nI_tI c3' (by omega)
      have tc4' := nI_tI c4' (by omega)
      obtain rfl : c' = c := by omega
      obtain rfl : j' = j := by omega
      exact ⟨rfl, _, _, _, _, rfl, R⟩

set_option maxHeartbeats 4000000 in
set_option maxRecDepth 100000 in
theorem p_turn {S : St} {N : Nat → Nat → Int64} {X : St} {Y : Nat → Int64} (R : Rel S N X Y) {x v : Int32} : Cn 3 yX3_turn cX3_turn 4 (some .int) [.ref 0, .int x, .int v] (hp S N X Y) (fun ans h => (∃ z, ans = some (.int z)) ∧ (∃ fs, h 69 = .inr (4, fs)) ∧ Cn 3 yX4_turn cX4_turn 3 (some .int) [.ref 69, .int x, .int v] h (Pq ans)) := by
  have e0 := R.x0
  have hco := R.wf.co
  have hlo := R.wf.lo
  have hmo := R.wf.mo
  refine c_turn R.wf ?_ ?_
  · intro c1 S1 c2
    refine ⟨⟨_, rfl⟩, ⟨_, hp_69⟩, ?_⟩
    have K := @r_turn S1 N X Y
    rw [e0] at K
    refine K R.wf ?_ ?_
    · intro c1' X1 c2'
      exact ⟨rfl, _, _, _, _, rfl, R.cf c2 c2' (by decide)⟩
    · intro c' j' c1' c2' c3' c4' X1 c5'
      have tc3' := nI_tI c3' (by omega)
      have tc4' := nI_tI c4' (by omega)
      first | (exfalso; omega) | contradiction
  · intro c j c1 c2 c3 c4 S1 c5
    have tc3 := nI_tI c3 (by omega)
    have tc4 := nI_tI c4 (by omega)
    refine ⟨⟨_, rfl⟩, ⟨_, hp_69⟩, ?_⟩
    have K := @r_turn S1 N X Y
    rw [e0] at K
    refine K R.wf ?_ ?_
    · intro c1' X1 c2'
      first | (exfalso; omega) | contradiction
    · intro c' j' c1' c2' c3' c4' X1 c5'
      have tc3' := nI_tI c3' (by omega)
      have tc4' := nI_tI c4' (by omega)
      obtain rfl : c' = c := by omega
      obtain rfl : j' = j := by omega
      exact ⟨rfl, _, _, _, _, rfl, R.cc c5 c5' ⟨R.wf.upd (by omega), wl_u2 R.wl (by decide) (by decide)⟩⟩

set_option maxHeartbeats 4000000 in
set_option maxRecDepth 100000 in
theorem p_as {S : St} {N : Nat → Nat → Int64} {X : St} {Y : Nat → Int64} (R : Rel S N X Y) {x v : Int32} : Cn 3 yX3_as cX3_as 3 (some .int) [.ref 0, .int x, .int v] (hp S N X Y) (fun ans h => (∃ z, ans = some (.int z)) ∧ (∃ fs, h 69 = .inr (4, fs)) ∧ Cn 3 yX4_as cX4_as 3 (some .int) [.ref 69, .int x, .int v] h (Pq ans)) := by
  have e0 := R.x0
  have hco := R.wf.co
  have hlo := R.wf.lo
  have hmo := R.wf.mo
  refine c_as R.wf ?_ ?_ ?_
  · intro c1 S1 c2
    refine ⟨⟨_, rfl⟩, ⟨_, hp_69⟩, ?_⟩
    have K := @r_as S1 N X Y
    rw [e0] at K
    refine K R.wf ?_ ?_ ?_
    · intro c1' X1 c2'
      exact ⟨rfl, _, _, _, _, rfl, R.cf c2 c2' (by decide)⟩
    · intro c' j' c1' c2' c3' c4' c5' X1 c6'
      have tc3' := nI_tI c3' (by omega)
      have tc4' := nI_tI c4' (by omega)
      first | (exfalso; omega) | contradiction
    · intro c' j' c1' c2' c3' c4' c5'
      have tc3' := nI_tI c3' (by omega)
      have tc4' := nI_tI c4' (by omega)
      first | (exfalso; omega) | contradiction
  · intro c j c1 c2 c3 c4 c5 S1 c6
    have tc3 := nI_tI c3 (by omega)
    have tc4 := nI_tI c4 (by omega)
    refine ⟨⟨_, rfl⟩, ⟨_, hp_69⟩, ?_⟩
    have K := @r_as S1 N X Y
    rw [e0] at K
    refine K R.wf ?_ ?_ ?_
    · intro c1' X1 c2'
      first | (exfalso; omega) | contradiction
    · intro c' j' c1' c2' c3' c4' c5' X1 c6'
      have tc3' := nI_tI c3' (by omega)
      have tc4' := nI_tI c4' (by omega)
      obtain rfl : c' = c := by omega
      obtain rfl : j' = j := by omega
      exact ⟨rfl, _, _, _, _, rfl, R.cf c6 c6' (by decide)⟩
    · intro c' j' c1' c2' c3' c4' c5'
      have tc3' := nI_tI c3' (by omega)
      have tc4' := nI_tI c4' (by omega)
      obtain rfl : c' = c := by omega
      obtain rfl : j' = j := by omega
      contradiction
  · intro c j c1 c2 c3 c4 c5
    have tc3 := nI_tI c3 (by omega)
    have tc4 := nI_tI c4 (by omega)
    refine ⟨⟨_, rfl⟩, ⟨_, hp_69⟩, ?_⟩
    have K := @r_as S N X Y
    rw [e0] at K
    refine K R.wf ?_ ?_ ?_
    · intro c1' X1 c2'
      first | (exfalso; omega) | contradiction
    · intro c' j' c1' c2' c3' c4' c5' X1 c6'
      have tc3' := nI_tI c3' (by omega)
      have tc4' := nI_tI c4' (by omega)
      obtain rfl : c' = c := by omega
      obtain rfl : j' = j := by omega
      contradiction
    · intro c' j' c1' c2' c3' c4' c5'
      have tc3' := nI_tI c3' (by omega)
      have tc4' := nI_tI c4' (by omega)
      obtain rfl : c' = c := by omega
      obtain rfl : j' = j := by omega
      exact ⟨rfl, _, _, _, _, rfl, R⟩

set_option maxHeartbeats 4000000 in
set_option maxRecDepth 100000 in
theorem p_swap {S : St} {N : Nat → Nat → Int64} {X : St} {Y : Nat → Int64} (R : Rel S N X Y) {x v : Int32} : Cn 3 yX3_swap cX3_swap 3 (some .int) [.ref 0, .int x, .int v] (hp S N X Y) (fun ans h => (∃ z, ans = some (.int z)) ∧ (∃ fs, h 69 = .inr (4, fs)) ∧ Cn 3 yX4_swap cX4_swap 3 (some .int) [.ref 69, .int x, .int v] h (Pq ans)) := by
  have e0 := R.x0
  have hco := R.wf.co
  have hlo := R.wf.lo
  have hmo := R.wf.mo
  refine c_swap R.wf ?_ ?_
  · intro c1 S1 c2
    refine ⟨⟨_, rfl⟩, ⟨_, hp_69⟩, ?_⟩
    have K := @r_swap S1 N X Y
    rw [e0] at K
    refine K R.wf ?_ ?_
    · intro c1' X1 c2'
      exact ⟨rfl, _, _, _, _, rfl, R.cf c2 c2' (by decide)⟩
    · intro c' j' c1' c2' c3' c4' X1 c5'
      have tc3' := nI_tI c3' (by omega)
      have tc4' := nI_tI c4' (by omega)
      first | (exfalso; omega) | contradiction
  · intro c j c1 c2 c3 c4 S1 c5
    have tc3 := nI_tI c3 (by omega)
    have tc4 := nI_tI c4 (by omega)
    refine ⟨⟨_, rfl⟩, ⟨_, hp_69⟩, ?_⟩
    have K := @r_swap S1 N X Y
    rw [e0] at K
    refine K R.wf ?_ ?_
    · intro c1' X1 c2'
      first | (exfalso; omega) | contradiction
    · intro c' j' c1' c2' c3' c4' X1 c5'
      have tc3' := nI_tI c3' (by omega)
      have tc4' := nI_tI c4' (by omega)
      obtain rfl : c' = c := by omega
      obtain rfl : j' = j := by omega
      exact ⟨rfl, _, _, _, _, rfl, R.cc c5 c5' ⟨wf_swp R.wf _ _, wl_swp R.wl _ _⟩⟩

set_option maxHeartbeats 4000000 in
set_option maxRecDepth 100000 in
theorem p_purse {S : St} {N : Nat → Nat → Int64} {X : St} {Y : Nat → Int64} (R : Rel S N X Y) {x : Int32} : Cn 5 yX3_purse cX3_purse 2 (some .int) [.ref 0, .int x] (hp S N X Y) (fun ans h => (∃ z, ans = some (.int z)) ∧ (∃ fs, h 69 = .inr (4, fs)) ∧ Cn 4 yX4_purse cX4_purse 2 (some .int) [.ref 69, .int x] h (Pq ans)) := by
  have e0 := R.x0
  have hco := R.wf.co
  have hlo := R.wf.lo
  have hmo := R.wf.mo
  refine c_purse R.wf ?_ ?_
  · intro c1 S1 c2
    refine ⟨⟨_, rfl⟩, ⟨_, hp_69⟩, ?_⟩
    have K := @r_purse S1 N X Y
    rw [e0] at K
    refine K R.wf ?_ ?_
    · intro c1' X1 c2'
      exact ⟨rfl, _, _, _, _, rfl, R.cf c2 c2' (by decide)⟩
    · intro i' c1' c2'
      have tc2' := nI_tI c2' (by omega)
      first | (exfalso; omega) | contradiction
  · intro i c1 c2
    have tc2 := nI_tI c2 (by omega)
    refine ⟨⟨_, rfl⟩, ⟨_, hp_69⟩, ?_⟩
    have K := @r_purse S N X Y
    rw [e0] at K
    refine K R.wf ?_ ?_
    · intro c1' X1 c2'
      first | (exfalso; omega) | contradiction
    · intro i' c1' c2'
      have tc2' := nI_tI c2' (by omega)
      obtain rfl : i' = i := by omega
      exact ⟨rfl, _, _, _, _, rfl, R⟩

set_option maxHeartbeats 4000000 in
set_option maxRecDepth 100000 in
theorem p_loanOf {S : St} {N : Nat → Nat → Int64} {X : St} {Y : Nat → Int64} (R : Rel S N X Y) {x w : Int32} : Cn 4 yX3_loanOf cX3_loanOf 3 (some .int) [.ref 0, .int x, .int w] (hp S N X Y) (fun ans h => (∃ z, ans = some (.int z)) ∧ (∃ fs, h 69 = .inr (4, fs)) ∧ Cn 3 yX4_loanOf cX4_loanOf 3 (some .int) [.ref 69, .int x, .int w] h (Pq ans)) := by
  have e0 := R.x0
  have hco := R.wf.co
  have hlo := R.wf.lo
  have hmo := R.wf.mo
  refine c_loanOf R.wf ?_ ?_
  · intro c1 S1 c2
    refine ⟨⟨_, rfl⟩, ⟨_, hp_69⟩, ?_⟩
    have K := @r_loanOf S1 N X Y
    rw [e0] at K
    refine K R.wf ?_ ?_
    · intro c1' X1 c2'
      exact ⟨rfl, _, _, _, _, rfl, R.cf c2 c2' (by decide)⟩
    · intro i' j' c1' c2' c3' c4' c5'
      have tc4' := nI_tI c4' (by omega)
      have tc5' := nI_tI c5' (by omega)
      first | (exfalso; omega) | contradiction
  · intro i j c1 c2 c3 c4 c5
    have tc4 := nI_tI c4 (by omega)
    have tc5 := nI_tI c5 (by omega)
    refine ⟨⟨_, rfl⟩, ⟨_, hp_69⟩, ?_⟩
    have K := @r_loanOf S N X Y
    rw [e0] at K
    refine K R.wf ?_ ?_
    · intro c1' X1 c2'
      first | (exfalso; omega) | contradiction
    · intro i' j' c1' c2' c3' c4' c5'
      have tc4' := nI_tI c4' (by omega)
      have tc5' := nI_tI c5' (by omega)
      obtain rfl : i' = i := by omega
      obtain rfl : j' = j := by omega
      exact ⟨rfl, _, _, _, _, rfl, R⟩

set_option maxHeartbeats 4000000 in
set_option maxRecDepth 100000 in
theorem p_now {S : St} {N : Nat → Nat → Int64} {X : St} {Y : Nat → Int64} (R : Rel S N X Y) {w : Int32} : Cn 2 yX3_now cX3_now 2 (some .int) [.ref 0, .int w] (hp S N X Y) (fun ans h => (∃ z, ans = some (.int z)) ∧ (∃ fs, h 69 = .inr (4, fs)) ∧ Cn 4 yX4_now cX4_now 2 (some .int) [.ref 69, .int w] h (Pq ans)) := by
  have e0 := R.x0
  have hco := R.wf.co
  have hlo := R.wf.lo
  have hmo := R.wf.mo
  refine c_now R.wf ?_ ?_
  · intro c1 S1 c2
    refine ⟨⟨_, rfl⟩, ⟨_, hp_69⟩, ?_⟩
    have K := @r_now S1 N X Y
    rw [e0] at K
    refine K R.wf ?_ ?_
    · intro c1' X1 c2'
      exact ⟨rfl, _, _, _, _, rfl, R.cf c2 c2' (by decide)⟩
    · intro j' c1' c2'
      have tc2' := nI_tI c2' (by omega)
      first | (exfalso; omega) | contradiction
  · intro j c1 c2
    have tc2 := nI_tI c2 (by omega)
    refine ⟨⟨_, rfl⟩, ⟨_, hp_69⟩, ?_⟩
    have K := @r_now S N X Y
    rw [e0] at K
    refine K R.wf ?_ ?_
    · intro c1' X1 c2'
      first | (exfalso; omega) | contradiction
    · intro j' c1' c2'
      have tc2' := nI_tI c2' (by omega)
      obtain rfl : j' = j := by omega
      exact ⟨rfl, _, _, _, _, rfl, R⟩
