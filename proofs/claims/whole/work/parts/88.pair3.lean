set_option maxHeartbeats 4000000 in
set_option maxRecDepth 100000 in
theorem p_feed {S : St} {N : Nat → Nat → Int64} {X : St} {Y : Nat → Int64} (R : Rel S N X Y) {x z : Int32} : Cn 3 yX3_feed cX3_feed 4 (some .int) [.ref 0, .int x, .int z] (hp S N X Y) (fun ans h => (∃ z, ans = some (.int z)) ∧ (∃ fs, h 69 = .inr (4, fs)) ∧ Cn 2 yX4_feed cX4_feed 4 (some .int) [.ref 69, .int x, .int z] h (Pq ans)) := by
  have e0 := R.x0
  have hco := R.wf.co
  have hlo := R.wf.lo
  have hmo := R.wf.mo
  refine c_feed R.tb.1 ?_ ?_ ?_
  · intro c1 S1 c2
    refine ⟨⟨_, rfl⟩, ⟨_, hp_69⟩, ?_⟩
    have K := @r_feed S1 N X Y
    rw [R.tl] at K
    refine K R.tb.1 ?_ ?_ ?_
    · intro c1' X1 c2'
      exact ⟨rfl, _, _, _, _, rfl, R.cf c2 c2' (by decide)⟩
    · intro n' c1' c2' c3' c4' X1 c5'
      have tc3' := nI_tI c3' (by omega)
      first | (exfalso; omega) | contradiction
    · intro n' c1' c2' c3' c4' X1 c5'
      have tc3' := nI_tI c3' (by omega)
      first | (exfalso; omega) | contradiction
  · intro n c1 c2 c3 c4 S1 c5
    have tc3 := nI_tI c3 (by omega)
    refine ⟨⟨_, rfl⟩, ⟨_, hp_69⟩, ?_⟩
    have K := @r_feed S1 N X Y
    rw [R.tl] at K
    refine K R.tb.1 ?_ ?_ ?_
    · intro c1' X1 c2'
      first | (exfalso; omega) | contradiction
    · intro n' c1' c2' c3' c4' X1 c5'
      have tc3' := nI_tI c3' (by omega)
      obtain rfl : n' = n := by omega
      exact ⟨rfl, _, _, _, _, rfl, R.cf c5 c5' (by decide)⟩
    · intro n' c1' c2' c3' c4' X1 c5'
      have tc3' := nI_tI c3' (by omega)
      (try obtain rfl : n' = n := by omega)
      first | (exfalso; omega) | contradiction
  · intro n c1 c2 c3 c4 S1 c5 c6 c7 c8 c9
    have tc3 := nI_tI c3 (by omega)
    refine ⟨⟨_, rfl⟩, ⟨_, hp_69⟩, ?_⟩
    have K := @r_feed S1 N X Y
    rw [R.tl] at K
    refine K R.tb.1 ?_ ?_ ?_
    · intro c1' X1 c2'
      first | (exfalso; omega) | contradiction
    · intro n' c1' c2' c3' c4' X1 c5'
      have tc3' := nI_tI c3' (by omega)
      (try obtain rfl : n' = n := by omega)
      first | (exfalso; omega) | contradiction
    · intro n' c1' c2' c3' c4' X1 c5'
      have tc3' := nI_tI c3' (by omega)
      obtain rfl : n' = n := by omega
      exact ⟨rfl, _, _, _, _, rfl, R.feed c4 c5 c6 c7 c8 c9 c5'⟩

set_option maxHeartbeats 4000000 in
set_option maxRecDepth 100000 in
theorem p_wipe {S : St} {N : Nat → Nat → Int64} {X : St} {Y : Nat → Int64} (R : Rel S N X Y)  : Cn 3 yX3_wipe cX3_wipe 2 (some .int) [.ref 0] (hp S N X Y) (fun ans h => (∃ z, ans = some (.int z)) ∧ (∃ fs, h 69 = .inr (4, fs)) ∧ Cn 2 yX4_wipe cX4_wipe 2 (some .int) [.ref 69] h (Pq ans)) := by
  have e0 := R.x0
  have hco := R.wf.co
  have hlo := R.wf.lo
  have hmo := R.wf.mo
  refine c_wipe ?_
  · intro S1 c1 c2 c3 c4 c5
    refine ⟨⟨_, rfl⟩, ⟨_, hp_69⟩, ?_⟩
    have K := @r_wipe S1 N X Y
    rw [R.tl] at K
    refine K ?_
    · skip
      exact ⟨rfl, _, _, _, _, rfl, R.wipe c1 c2 c3 c4 c5⟩

set_option maxHeartbeats 4000000 in
set_option maxRecDepth 100000 in
theorem p_market {S : St} {N : Nat → Nat → Int64} {X : St} {Y : Nat → Int64} (R : Rel S N X Y)  : Cn 10 yX3_market cX3_market 2 (some .int) [.ref 0] (hp S N X Y) (fun ans h => (∃ z, ans = some (.int z)) ∧ (∃ fs, h 69 = .inr (4, fs)) ∧ Cn 6 yX4_market cX4_market 3 (some .int) [.ref 69] h (Pq ans)) := by
  have e0 := R.x0
  have hco := R.wf.co
  have hlo := R.wf.lo
  have hmo := R.wf.mo
  refine c_market R.wf R.tb ?_ ?_
  · intro n M' c1 c2 S1 c3 c4 c5 c6 c7 c8
    refine ⟨⟨_, rfl⟩, ⟨_, hp_69⟩, ?_⟩
    have K := @r_market S1 N X Y
    rw [e0] at K
    refine K R.tb R.t0 R.tl ⟨hco, hlo⟩ ?_ ?_
    · intro n' M'' c1' c2' X1 c3' c4' c5' c6' c7'
      rw [c2] at c2'
      cases c2'
      exact ⟨rfl, _, _, _, _, rfl, R.mkt (pitems_W _ _ _ _ _ _ R.ww c2) c3 c4 c5 c6 c7 c8 c3' c4' c5' c6' c7'⟩
    · intro s' M'' c1' c2' X1 c3' c4' c5' c6' c7'
      rw [c2] at c2'
      cases c2'
  · intro s M' c1 c2 S1 c3 c4 c5 c6 c7 c8
    refine ⟨⟨_, rfl⟩, ⟨_, hp_69⟩, ?_⟩
    have K := @r_market S1 N X Y
    rw [e0] at K
    refine K R.tb R.t0 R.tl ⟨hco, hlo⟩ ?_ ?_
    · intro n' M'' c1' c2' X1 c3' c4' c5' c6' c7'
      rw [c2] at c2'
      cases c2'
    · intro s' M'' c1' c2' X1 c3' c4' c5' c6' c7'
      rw [c2] at c2'
      cases c2'
      exact ⟨rfl, _, _, _, _, rfl, R.mkt R.ww c3 c4 c5 c6 c7 c8 c3' c4' c5' c6' c7'⟩

set_option maxHeartbeats 4000000 in
set_option maxRecDepth 100000 in
theorem p_image {S : St} {N : Nat → Nat → Int64} {X : St} {Y : Nat → Int64} (R : Rel S N X Y)  : Cn 3 yX3_image cX3_image 1 (some .int) [.ref 0] (hp S N X Y) (fun ans h => (∃ z, ans = some (.int z)) ∧ (∃ fs, h 69 = .inr (4, fs)) ∧ Cn 2 yX4_image cX4_image 1 (some .int) [.ref 69] h (Pq ans)) := by
  have e0 := R.x0
  have hco := R.wf.co
  have hlo := R.wf.lo
  have hmo := R.wf.mo
  refine c_image ?_
  · intro S1 c1 c2 c3 c4 c5
    refine ⟨⟨_, rfl⟩, ⟨_, hp_69⟩, ?_⟩
    have K := @r_image S1 N X Y
    rw [e0] at K
    refine K ?_
    · skip
      exact ⟨rfl, _, _, _, _, rfl, R.image c1 c2 c3 c4 c5⟩

set_option maxHeartbeats 4000000 in
set_option maxRecDepth 100000 in
theorem p_undo {S : St} {N : Nat → Nat → Int64} {X : St} {Y : Nat → Int64} (R : Rel S N X Y)  : Cn 3 yX3_undo cX3_undo 1 (some .int) [.ref 0] (hp S N X Y) (fun ans h => (∃ z, ans = some (.int z)) ∧ (∃ fs, h 69 = .inr (4, fs)) ∧ Cn 2 yX4_undo cX4_undo 1 (some .int) [.ref 69] h (Pq ans)) := by
  have e0 := R.x0
  have hco := R.wf.co
  have hlo := R.wf.lo
  have hmo := R.wf.mo
  refine c_undo R.k1 ?_ ?_
  · intro c1 S1 c2
    refine ⟨⟨_, rfl⟩, ⟨_, hp_69⟩, ?_⟩
    have K := @r_undo S1 N X Y
    rw [R.kx] at K
    refine K R.k1 ?_ ?_
    · intro c1' X1 c2'
      exact ⟨rfl, _, _, _, _, rfl, R.cf c2 c2' (by decide)⟩
    · intro c1'
      first | (exfalso; omega) | contradiction
  · intro c1 S1 c2
    refine ⟨⟨_, rfl⟩, ⟨_, hp_69⟩, ?_⟩
    have K := @r_undo S1 N X Y
    rw [R.kx] at K
    rw [(R.kk c1).1] at K
    refine K R.k1 ?_ ?_
    · intro c1' X1 c2'
      first | (exfalso; omega) | contradiction
    · intro c1'
      exact ⟨rfl, _, _, _, _, rfl, R.cc c2 (Xp.back Xp.rf) (R.kk c1).2⟩

set_option maxHeartbeats 4000000 in
set_option maxRecDepth 100000 in
theorem p_tear {S : St} {N : Nat → Nat → Int64} {X : St} {Y : Nat → Int64} (R : Rel S N X Y)  : Cn 3 yX3_tear cX3_tear 2 (some .int) [.ref 0] (hp S N X Y) (fun ans h => (∃ z, ans = some (.int z)) ∧ (∃ fs, h 69 = .inr (4, fs)) ∧ Cn 2 yX4_tear cX4_tear 2 (some .int) [.ref 69] h (Pq ans)) := by
  have e0 := R.x0
  have hco := R.wf.co
  have hlo := R.wf.lo
  have hmo := R.wf.mo
  refine c_tear R.k1 ?_
  · intro S1 c1 c2 c3 c4 c5
    refine ⟨⟨_, rfl⟩, ⟨_, hp_69⟩, ?_⟩
    have K := @r_tear S1 N X Y
    rw [R.kx] at K
    refine K R.k1 ?_
    · skip
      exact ⟨rfl, _, _, _, _, rfl, R.tear c1 c2 c3 c4 c5⟩

set_option maxHeartbeats 4000000 in
set_option maxRecDepth 100000 in
theorem p_sheet {S : St} {N : Nat → Nat → Int64} {X : St} {Y : Nat → Int64} (R : Rel S N X Y) {x b z : Int32} : Cn 3 yX3_sheet cX3_sheet 4 (some .int) [.ref 0, .int x, .int b, .int z] (hp S N X Y) (fun ans h => (∃ z, ans = some (.int z)) ∧ (∃ fs, h 69 = .inr (4, fs)) ∧ Cn 3 yX4_sheet cX4_sheet 5 (some .int) [.ref 69, .int x, .int b, .int z] h (Pq ans)) := by
  have e0 := R.x0
  have hco := R.wf.co
  have hlo := R.wf.lo
  have hmo := R.wf.mo
  refine c_sheet ?_ ?_ ?_ ?_
  · intro c1 S1 c2
    refine ⟨⟨_, rfl⟩, ⟨_, hp_69⟩, ?_⟩
    have K := @r_sheet S1 N X Y
    skip
    refine K ?_ ?_ ?_ ?_
    · intro c1' X1 c2'
      exact ⟨rfl, _, _, _, _, rfl, R.cf c2 c2' (by decide)⟩
    · intro c1' c2' X1 c3'
      exact absurd c1' c1
    · intro c1' c2' c3' X1 c4'
      exact absurd c1' c1
    · intro t' c' n' c1' c2' c3' c4' c5' c6' X1 c7' c8' c9' c10' c11'
      have qt' := R.s6 t' c1'
      have tc4' := nI_tI c4' (by first | omega | (unfold okB at c2'; omega))
      have tc5' := nI_tI c5' (by first | omega | (unfold okB at c2'; omega))
      have tc6' := nI_tI c6' (by first | omega | (unfold okB at c2'; omega))
      exact absurd ⟨⟨by omega, by omega⟩, okB_or c2' c5'⟩ c1
  · intro c1 c2 S1 c3
    refine ⟨⟨_, rfl⟩, ⟨_, hp_69⟩, ?_⟩
    have K := @r_sheet S1 N X Y
    skip
    refine K ?_ ?_ ?_ ?_
    · intro c1' X1 c2'
      exact absurd c1 c1'
    · intro c1' c2' X1 c3'
      exact ⟨rfl, _, _, _, _, rfl, R.cf c3 c3' (by decide)⟩
    · intro c1' c2' c3' X1 c4'
      first | (exfalso; omega) | contradiction
    · intro t' c' n' c1' c2' c3' c4' c5' c6' X1 c7' c8' c9' c10' c11'
      have qt' := R.s6 t' c1'
      have tc4' := nI_tI c4' (by first | omega | (unfold okB at c2'; omega))
      have tc5' := nI_tI c5' (by first | omega | (unfold okB at c2'; omega))
      have tc6' := nI_tI c6' (by first | omega | (unfold okB at c2'; omega))
      first | (exfalso; omega) | contradiction
  · intro c1 c2 c3 S1 c4
    refine ⟨⟨_, rfl⟩, ⟨_, hp_69⟩, ?_⟩
    have K := @r_sheet S1 N X Y
    skip
    refine K ?_ ?_ ?_ ?_
    · intro c1' X1 c2'
      exact absurd c1 c1'
    · intro c1' c2' X1 c3'
      first | (exfalso; omega) | contradiction
    · intro c1' c2' c3' X1 c4'
      exact ⟨rfl, _, _, _, _, rfl, R.cf c4 c4' (by decide)⟩
    · intro t' c' n' c1' c2' c3' c4' c5' c6' X1 c7' c8' c9' c10' c11'
      have qt' := R.s6 t' c1'
      have tc4' := nI_tI c4' (by first | omega | (unfold okB at c2'; omega))
      have tc5' := nI_tI c5' (by first | omega | (unfold okB at c2'; omega))
      have tc6' := nI_tI c6' (by first | omega | (unfold okB at c2'; omega))
      first | (exfalso; omega) | contradiction
  · intro t c n c1 c2 c3 c4 c5 c6 S1 c7 c8
    have qt := R.s6 t c1
    have tc4 := nI_tI c4 (by first | omega | (unfold okB at c2; omega))
    have tc5 := nI_tI c5 (by first | omega | (unfold okB at c2; omega))
    have tc6 := nI_tI c6 (by first | omega | (unfold okB at c2; omega))
    refine ⟨⟨_, rfl⟩, ⟨_, hp_69⟩, ?_⟩
    have K := @r_sheet S1 ((zN N t 40)) X Y
    skip
    refine K ?_ ?_ ?_ ?_
    · intro c1' X1 c2'
      exact absurd ⟨⟨by omega, by omega⟩, okB_or c2 c5⟩ c1'
    · intro c1' c2' X1 c3'
      first | (exfalso; omega) | contradiction
    · intro c1' c2' c3' X1 c4'
      first | (exfalso; omega) | contradiction
    · intro t' c' n' c1' c2' c3' c4' c5' c6' X1 c7' c8' c9' c10' c11'
      have qt' := R.s6 t' c1'
      have tc4' := nI_tI c4' (by first | omega | (unfold okB at c2'; omega))
      have tc5' := nI_tI c5' (by first | omega | (unfold okB at c2'; omega))
      have tc6' := nI_tI c6' (by first | omega | (unfold okB at c2'; omega))
      obtain rfl : t' = t := by omega
      obtain rfl : c' = c := by omega
      obtain rfl : n' = n := by omega
      exact ⟨rfl, _, _, _, _, rfl, R.sheet c1 c2 c3 c7 c8 c7' c8' c9' c10' c11'⟩

set_option maxHeartbeats 4000000 in
set_option maxRecDepth 100000 in
theorem p_write {S : St} {N : Nat → Nat → Int64} {X : St} {Y : Nat → Int64} (R : Rel S N X Y) {x i : Int32} {v : Int64} : Cn 3 yX3_write cX3_write 8 (some .long) [.ref 0, .int x, .int i, .long v] (hp S N X Y) (fun ans h => (∃ z, ans = some (.long z)) ∧ (∃ fs, h 69 = .inr (4, fs)) ∧ Cn 3 yX4_write cX4_write 7 (some .long) [.ref 69, .int x, .int i, .long v] h (Pq ans)) := by
  have e0 := R.x0
  have hco := R.wf.co
  have hlo := R.wf.lo
  have hmo := R.wf.mo
  refine c_write R.sh ?_ ?_ ?_ ?_
  · intro c1 S1 c2
    refine ⟨⟨_, rfl⟩, ⟨_, hp_69⟩, ?_⟩
    have K := @r_write S1 N X Y
    skip
    refine K R.xsh ?_ ?_ ?_ ?_
    · intro c1' X1 c2'
      exact ⟨rfl, _, _, _, _, rfl, R.cf c2 c2' (by decide)⟩
    · intro t' c1' c2' c3' X1 c4'
      have qt' := R.s6 t' c1'
      rw [qt'.2.2.1] at c3'
      have tc2' := nI_tI c2' (by omega)
      first | (exfalso; omega) | contradiction
    · intro t' c1' c2' c3' c4' X1 c5'
      have qt' := R.s6 t' c1'
      rw [qt'.2.2.1] at c3'
      rw [qt'.2.2.2] at c4'
      have tc2' := nI_tI c2' (by omega)
      first | (exfalso; omega) | contradiction
    · intro t' c' c1' c2' c3' c4' c5' c6'
      have qt' := R.s6 t' c1'
      rw [qt'.2.2.1] at c4'
      rw [qt'.2.2.2] at c5'
      have tc2' := nI_tI c2' (by omega)
      have tc3' := nI_tI c3' (by omega)
      first | (exfalso; omega) | contradiction
  · intro t c1 c2 c3 S1 c4
    have qt := R.s6 t c1
    have tc2 := nI_tI c2 (by omega)
    refine ⟨⟨_, rfl⟩, ⟨_, hp_69⟩, ?_⟩
    have K := @r_write S1 N X Y
    skip
    refine K R.xsh ?_ ?_ ?_ ?_
    · intro c1' X1 c2'
      first | (exfalso; omega) | contradiction
    · intro t' c1' c2' c3' X1 c4'
      have qt' := R.s6 t' c1'
      rw [qt'.2.2.1] at c3'
      have tc2' := nI_tI c2' (by omega)
      obtain rfl : t' = t := by omega
      exact ⟨rfl, _, _, _, _, rfl, R.cf c4 c4' (by decide)⟩
    · intro t' c1' c2' c3' c4' X1 c5'
      have qt' := R.s6 t' c1'
      rw [qt'.2.2.1] at c3'
      rw [qt'.2.2.2] at c4'
      have tc2' := nI_tI c2' (by omega)
      (try obtain rfl : t' = t := by omega)
      first | (exfalso; omega) | contradiction
    · intro t' c' c1' c2' c3' c4' c5' c6'
      have qt' := R.s6 t' c1'
      rw [qt'.2.2.1] at c4'
      rw [qt'.2.2.2] at c5'
      have tc2' := nI_tI c2' (by omega)
      have tc3' := nI_tI c3' (by omega)
      (try obtain rfl : t' = t := by omega)
      first | (exfalso; omega) | contradiction
  · intro t c1 c2 c3 c4 S1 c5
    have qt := R.s6 t c1
    have tc2 := nI_tI c2 (by omega)
    refine ⟨⟨_, rfl⟩, ⟨_, hp_69⟩, ?_⟩
    have K := @r_write S1 N X Y
    skip
    refine K R.xsh ?_ ?_ ?_ ?_
    · intro c1' X1 c2'
      first | (exfalso; omega) | contradiction
    · intro t' c1' c2' c3' X1 c4'
      have qt' := R.s6 t' c1'
      rw [qt'.2.2.1] at c3'
      have tc2' := nI_tI c2' (by omega)
      (try obtain rfl : t' = t := by omega)
      first | (exfalso; omega) | contradiction
    · intro t' c1' c2' c3' c4' X1 c5'
      have qt' := R.s6 t' c1'
      rw [qt'.2.2.1] at c3'
      rw [qt'.2.2.2] at c4'
      have tc2' := nI_tI c2' (by omega)
      obtain rfl : t' = t := by omega
      exact ⟨rfl, _, _, _, _, rfl, R.cf c5 c5' (by decide)⟩
    · intro t' c' c1' c2' c3' c4' c5' c6'
      have qt' := R.s6 t' c1'
      rw [qt'.2.2.1] at c4'
      rw [qt'.2.2.2] at c5'
      have tc2' := nI_tI c2' (by omega)
      have tc3' := nI_tI c3' (by omega)
      (try obtain rfl : t' = t := by omega)
      first | (exfalso; omega) | contradiction
  · intro t c c1 c2 c3 c4 c5 c6
    have qt := R.s6 t c1
    have tc2 := nI_tI c2 (by omega)
    have tc3 := nI_tI c3 (by omega)
    refine ⟨⟨_, rfl⟩, ⟨_, hp_69⟩, ?_⟩
    have K := @r_write S ((uN2 N t c (lowB (S 6 t 0) v))) X Y
    skip
    refine K R.xsh ?_ ?_ ?_ ?_
    · intro c1' X1 c2'
      first | (exfalso; omega) | contradiction
    · intro t' c1' c2' c3' X1 c4'
      have qt' := R.s6 t' c1'
      rw [qt'.2.2.1] at c3'
      have tc2' := nI_tI c2' (by omega)
      (try obtain rfl : t' = t := by omega)
      first | (exfalso; omega) | contradiction
    · intro t' c1' c2' c3' c4' X1 c5'
      have qt' := R.s6 t' c1'
      rw [qt'.2.2.1] at c3'
      rw [qt'.2.2.2] at c4'
      have tc2' := nI_tI c2' (by omega)
      (try obtain rfl : t' = t := by omega)
      first | (exfalso; omega) | contradiction
    · intro t' c' c1' c2' c3' c4' c5' c6'
      have qt' := R.s6 t' c1'
      rw [qt'.2.2.1] at c4'
      rw [qt'.2.2.2] at c5'
      have tc2' := nI_tI c2' (by omega)
      have tc3' := nI_tI c3' (by omega)
      rw [qt'.2.2.1]
      obtain rfl : t' = t := by omega
      obtain rfl : c' = c := by omega
      exact ⟨by rw [R.ny _ _ c1 c6], _, _, _, _, rfl, R.wr c1 c6⟩

set_option maxHeartbeats 4000000 in
set_option maxRecDepth 100000 in
theorem p_copy {S : St} {N : Nat → Nat → Int64} {X : St} {Y : Nat → Int64} (R : Rel S N X Y) {x f y g z : Int32} : Cn 3 yX3_copy cX3_copy 8 (some .int) [.ref 0, .int x, .int f, .int y, .int g, .int z] (hp S N X Y) (fun ans h => (∃ z, ans = some (.int z)) ∧ (∃ fs, h 69 = .inr (4, fs)) ∧ Cn 3 yX4_copy cX4_copy 10 (some .int) [.ref 69, .int x, .int f, .int y, .int g, .int z] h (Pq ans)) := by
  have e0 := R.x0
  have hco := R.wf.co
  have hlo := R.wf.lo
  have hmo := R.wf.mo
  refine c_copy R.sh ?_ ?_ ?_ ?_ ?_
  · intro c1 S1 c2
    refine ⟨⟨_, rfl⟩, ⟨_, hp_69⟩, ?_⟩
    have K := @r_copy S1 N X Y
    skip
    refine K R.xsh ?_ ?_ ?_ ?_ ?_
    · intro c1' X1 c2'
      exact ⟨rfl, _, _, _, _, rfl, R.cf c2 c2' (by decide)⟩
    · intro t' u' c1' c2' c3' c4' c5' X1 c6'
      have qt' := R.s6 t' c1'
      have qu' := R.s6 u' c2'
      rw [qt'.2.2.1] at c5'
      rw [qu'.2.2.1] at c5'
      have tc3' := nI_tI c3' (by first | omega | (have q1 := qt'.2.1; have q2 := qu'.2.1; omega))
      have tc4' := nI_tI c4' (by first | omega | (have q1 := qt'.2.1; have q2 := qu'.2.1; omega))
      first | (exfalso; omega) | contradiction
    · intro t' u' c1' c2' c3' c4' c5' c6' X1 c7'
      have qt' := R.s6 t' c1'
      have qu' := R.s6 u' c2'
      rw [qt'.2.2.1] at c5'
      rw [qu'.2.2.1] at c5'
      rw [qt'.2.2.1] at c6'
      rw [qu'.2.2.1] at c6'
      have tc3' := nI_tI c3' (by first | omega | (have q1 := qt'.2.1; have q2 := qu'.2.1; omega))
      have tc4' := nI_tI c4' (by first | omega | (have q1 := qt'.2.1; have q2 := qu'.2.1; omega))
      first | (exfalso; omega) | contradiction
    · intro t' u' c1' c2' c3' c4' c5' c6' c7' X1 c8'
      have qt' := R.s6 t' c1'
      have qu' := R.s6 u' c2'
      rw [qt'.2.2.1] at c5'
      rw [qu'.2.2.1] at c5'
      rw [qt'.2.2.1] at c6'
      rw [qu'.2.2.1] at c6'
      rw [qt'.2.2.2] at c7'
      rw [qu'.2.2.2] at c7'
      have tc3' := nI_tI c3' (by first | omega | (have q1 := qt'.2.1; have q2 := qu'.2.1; omega))
      have tc4' := nI_tI c4' (by first | omega | (have q1 := qt'.2.1; have q2 := qu'.2.1; omega))
      first | (exfalso; omega) | contradiction
    · intro t' u' c1' c2' c3' c4' c5' c6' a' b' n' c7' c8' c9' c10' c11'
      have qt' := R.s6 t' c1'
      have qu' := R.s6 u' c2'
      rw [qt'.2.2.1] at c5'
      rw [qu'.2.2.1] at c5'
      rw [qt'.2.2.1] at c6'
      rw [qu'.2.2.1] at c6'
      rw [qt'.2.2.2] at c10'
      rw [qu'.2.2.2] at c11'
      have tc3' := nI_tI c3' (by first | omega | (have q1 := qt'.2.1; have q2 := qu'.2.1; omega))
      have tc4' := nI_tI c4' (by first | omega | (have q1 := qt'.2.1; have q2 := qu'.2.1; omega))
      have tc7' := nI_tI c7' (by first | omega | (have q1 := qt'.2.1; have q2 := qu'.2.1; omega))
      have tc8' := nI_tI c8' (by first | omega | (have q1 := qt'.2.1; have q2 := qu'.2.1; omega))
      have tc9' := nI_tI c9' (by first | omega | (have q1 := qt'.2.1; have q2 := qu'.2.1; omega))
      first | (exfalso; omega) | contradiction
  · intro t u c1 c2 c3 c4 c5 S1 c6
    have qt := R.s6 t c1
    have qu := R.s6 u c2
    have tc3 := nI_tI c3 (by first | omega | (have q1 := qt.2.1; have q2 := qu.2.1; omega))
    have tc4 := nI_tI c4 (by first | omega | (have q1 := qt.2.1; have q2 := qu.2.1; omega))
    refine ⟨⟨_, rfl⟩, ⟨_, hp_69⟩, ?_⟩
    have K := @r_copy S1 N X Y
    skip
    refine K R.xsh ?_ ?_ ?_ ?_ ?_
    · intro c1' X1 c2'
      first | (exfalso; omega) | contradiction
    · intro t' u' c1' c2' c3' c4' c5' X1 c6'
      have qt' := R.s6 t' c1'
      have qu' := R.s6 u' c2'
      rw [qt'.2.2.1] at c5'
      rw [qu'.2.2.1] at c5'
      have tc3' := nI_tI c3' (by first | omega | (have q1 := qt'.2.1; have q2 := qu'.2.1; omega))
      have tc4' := nI_tI c4' (by first | omega | (have q1 := qt'.2.1; have q2 := qu'.2.1; omega))
      obtain rfl : t' = t := by omega
      obtain rfl : u' = u := by omega
      exact ⟨rfl, _, _, _, _, rfl, R.cf c6 c6' (by decide)⟩
    · intro t' u' c1' c2' c3' c4' c5' c6' X1 c7'
      have qt' := R.s6 t' c1'
      have qu' := R.s6 u' c2'
      rw [qt'.2.2.1] at c5'
      rw [qu'.2.2.1] at c5'
      rw [qt'.2.2.1] at c6'
      rw [qu'.2.2.1] at c6'
      have tc3' := nI_tI c3' (by first | omega | (have q1 := qt'.2.1; have q2 := qu'.2.1; omega))
      have tc4' := nI_tI c4' (by first | omega | (have q1 := qt'.2.1; have q2 := qu'.2.1; omega))
      (try obtain rfl : t' = t := by omega)
      (try obtain rfl : u' = u := by omega)
      first | (exfalso; omega) | contradiction
    · intro t' u' c1' c2' c3' c4' c5' c6' c7' X1 c8'
      have qt' := R.s6 t' c1'
      have qu' := R.s6 u' c2'
      rw [qt'.2.2.1] at c5'
      rw [qu'.2.2.1] at c5'
      rw [qt'.2.2.1] at c6'
      rw [qu'.2.2.1] at c6'
      rw [qt'.2.2.2] at c7'
      rw [qu'.2.2.2] at c7'
      have tc3' := nI_tI c3' (by first | omega | (have q1 := qt'.2.1; have q2 := qu'.2.1; omega))
      have tc4' := nI_tI c4' (by first | omega | (have q1 := qt'.2.1; have q2 := qu'.2.1; omega))
      (try obtain rfl : t' = t := by omega)
      (try obtain rfl : u' = u := by omega)
      first | (exfalso; omega) | contradiction
    · intro t' u' c1' c2' c3' c4' c5' c6' a' b' n' c7' c8' c9' c10' c11'
      have qt' := R.s6 t' c1'
      have qu' := R.s6 u' c2'
      rw [qt'.2.2.1] at c5'
      rw [qu'.2.2.1] at c5'
      rw [qt'.2.2.1] at c6'
      rw [qu'.2.2.1] at c6'
      rw [qt'.2.2.2] at c10'
      rw [qu'.2.2.2] at c11'
      have tc3' := nI_tI c3' (by first | omega | (have q1 := qt'.2.1; have q2 := qu'.2.1; omega))
      have tc4' := nI_tI c4' (by first | omega | (have q1 := qt'.2.1; have q2 := qu'.2.1; omega))
      have tc7' := nI_tI c7' (by first | omega | (have q1 := qt'.2.1; have q2 := qu'.2.1; omega))
      have tc8' := nI_tI c8' (by first | omega | (have q1 := qt'.2.1; have q2 := qu'.2.1; omega))
      have tc9' := nI_tI c9' (by first | omega | (have q1 := qt'.2.1; have q2 := qu'.2.1; omega))
      (try obtain rfl : t' = t := by omega)
      (try obtain rfl : u' = u := by omega)
      first | (exfalso; omega) | contradiction
  · intro t u c1 c2 c3 c4 c5 c6 S1 c7
    have qt := R.s6 t c1
    have qu := R.s6 u c2
    have tc3 := nI_tI c3 (by first | omega | (have q1 := qt.2.1; have q2 := qu.2.1; omega))
    have tc4 := nI_tI c4 (by first | omega | (have q1 := qt.2.1; have q2 := qu.2.1; omega))
    refine ⟨⟨_, rfl⟩, ⟨_, hp_69⟩, ?_⟩
    have K := @r_copy S1 N X Y
    skip
    refine K R.xsh ?_ ?_ ?_ ?_ ?_
    · intro c1' X1 c2'
      first | (exfalso; omega) | contradiction
    · intro t' u' c1' c2' c3' c4' c5' X1 c6'
      have qt' := R.s6 t' c1'
      have qu' := R.s6 u' c2'
      rw [qt'.2.2.1] at c5'
      rw [qu'.2.2.1] at c5'
      have tc3' := nI_tI c3' (by first | omega | (have q1 := qt'.2.1; have q2 := qu'.2.1; omega))
      have tc4' := nI_tI c4' (by first | omega | (have q1 := qt'.2.1; have q2 := qu'.2.1; omega))
      (try obtain rfl : t' = t := by omega)
      (try obtain rfl : u' = u := by omega)
      first | (exfalso; omega) | contradiction
    · intro t' u' c1' c2' c3' c4' c5' c6' X1 c7'
      have qt' := R.s6 t' c1'
      have qu' := R.s6 u' c2'
      rw [qt'.2.2.1] at c5'
      rw [qu'.2.2.1] at c5'
      rw [qt'.2.2.1] at c6'
      rw [qu'.2.2.1] at c6'
      have tc3' := nI_tI c3' (by first | omega | (have q1 := qt'.2.1; have q2 := qu'.2.1; omega))
      have tc4' := nI_tI c4' (by first | omega | (have q1 := qt'.2.1; have q2 := qu'.2.1; omega))
      obtain rfl : t' = t := by omega
      obtain rfl : u' = u := by omega
      exact ⟨rfl, _, _, _, _, rfl, R.cf c7 c7' (by decide)⟩
    · intro t' u' c1' c2' c3' c4' c5' c6' c7' X1 c8'
      have qt' := R.s6 t' c1'
      have qu' := R.s6 u' c2'
      rw [qt'.2.2.1] at c5'
      rw [qu'.2.2.1] at c5'
      rw [qt'.2.2.1] at c6'
      rw [qu'.2.2.1] at c6'
      rw [qt'.2.2.2] at c7'
      rw [qu'.2.2.2] at c7'
      have tc3' := nI_tI c3' (by first | omega | (have q1 := qt'.2.1; have q2 := qu'.2.1; omega))
      have tc4' := nI_tI c4' (by first | omega | (have q1 := qt'.2.1; have q2 := qu'.2.1; omega))
      (try obtain rfl : t' = t := by omega)
      (try obtain rfl : u' = u := by omega)
      first | (exfalso; omega) | contradiction
    · intro t' u' c1' c2' c3' c4' c5' c6' a' b' n' c7' c8' c9' c10' c11'
      have qt' := R.s6 t' c1'
      have qu' := R.s6 u' c2'
      rw [qt'.2.2.1] at c5'
      rw [qu'.2.2.1] at c5'
      rw [qt'.2.2.1] at c6'
      rw [qu'.2.2.1] at c6'
      rw [qt'.2.2.2] at c10'
      rw [qu'.2.2.2] at c11'
      have tc3' := nI_tI c3' (by first | omega | (have q1 := qt'.2.1; have q2 := qu'.2.1; omega))
      have tc4' := nI_tI c4' (by first | omega | (have q1 := qt'.2.1; have q2 := qu'.2.1; omega))
      have tc7' := nI_tI c7' (by first | omega | (have q1 := qt'.2.1; have q2 := qu'.2.1; omega))
      have tc8' := nI_tI c8' (by first | omega | (have q1 := qt'.2.1; have q2 := qu'.2.1; omega))
      have tc9' := nI_tI c9' (by first | omega | (have q1 := qt'.2.1; have q2 := qu'.2.1; omega))
      (try obtain rfl : t' = t := by omega)
      (try obtain rfl : u' = u := by omega)
      first | (exfalso; omega) | contradiction
  · intro t u c1 c2 c3 c4 c5 c6 c7 S1 c8
    have qt := R.s6 t c1
    have qu := R.s6 u c2
    have tc3 := nI_tI c3 (by first | omega | (have q1 := qt.2.1; have q2 := qu.2.1; omega))
    have tc4 := nI_tI c4 (by first | omega | (have q1 := qt.2.1; have q2 := qu.2.1; omega))
    refine ⟨⟨_, rfl⟩, ⟨_, hp_69⟩, ?_⟩
    have K := @r_copy S1 N X Y
    skip
    refine K R.xsh ?_ ?_ ?_ ?_ ?_
    · intro c1' X1 c2'
      first | (exfalso; omega) | contradiction
    · intro t' u' c1' c2' c3' c4' c5' X1 c6'
      have qt' := R.s6 t' c1'
      have qu' := R.s6 u' c2'
      rw [qt'.2.2.1] at c5'
      rw [qu'.2.2.1] at c5'
      have tc3' := nI_tI c3' (by first | omega | (have q1 := qt'.2.1; have q2 := qu'.2.1; omega))
      have tc4' := nI_tI c4' (by first | omega | (have q1 := qt'.2.1; have q2 := qu'.2.1; omega))
      (try obtain rfl : t' = t := by omega)
      (try obtain rfl : u' = u := by omega)
      first | (exfalso; omega) | contradiction
    · intro t' u' c1' c2' c3' c4' c5' c6' X1 c7'
      have qt' := R.s6 t' c1'
      have qu' := R.s6 u' c2'
      rw [qt'.2.2.1] at c5'
      rw [qu'.2.2.1] at c5'
      rw [qt'.2.2.1] at c6'
      rw [qu'.2.2.1] at c6'
      have tc3' := nI_tI c3' (by first | omega | (have q1 := qt'.2.1; have q2 := qu'.2.1; omega))
      have tc4' := nI_tI c4' (by first | omega | (have q1 := qt'.2.1; have q2 := qu'.2.1; omega))
      (try obtain rfl : t' = t := by omega)
      (try obtain rfl : u' = u := by omega)
      first | (exfalso; omega) | contradiction
    · intro t' u' c1' c2' c3' c4' c5' c6' c7' X1 c8'
      have qt' := R.s6 t' c1'
      have qu' := R.s6 u' c2'
      rw [qt'.2.2.1] at c5'
      rw [qu'.2.2.1] at c5'
      rw [qt'.2.2.1] at c6'
      rw [qu'.2.2.1] at c6'
      rw [qt'.2.2.2] at c7'
      rw [qu'.2.2.2] at c7'
      have tc3' := nI_tI c3' (by first | omega | (have q1 := qt'.2.1; have q2 := qu'.2.1; omega))
      have tc4' := nI_tI c4' (by first | omega | (have q1 := qt'.2.1; have q2 := qu'.2.1; omega))
      obtain rfl : t' = t := by omega
      obtain rfl : u' = u := by omega
      exact ⟨rfl, _, _, _, _, rfl, R.cf c8 c8' (by decide)⟩
    · intro t' u' c1' c2' c3' c4' c5' c6' a' b' n' c7' c8' c9' c10' c11'
      have qt' := R.s6 t' c1'
      have qu' := R.s6 u' c2'
      rw [qt'.2.2.1] at c5'
      rw [qu'.2.2.1] at c5'
      rw [qt'.2.2.1] at c6'
      rw [qu'.2.2.1] at c6'
      rw [qt'.2.2.2] at c10'
      rw [qu'.2.2.2] at c11'
      have tc3' := nI_tI c3' (by first | omega | (have q1 := qt'.2.1; have q2 := qu'.2.1; omega))
      have tc4' := nI_tI c4' (by first | omega | (have q1 := qt'.2.1; have q2 := qu'.2.1; omega))
      have tc7' := nI_tI c7' (by first | omega | (have q1 := qt'.2.1; have q2 := qu'.2.1; omega))
      have tc8' := nI_tI c8' (by first | omega | (have q1 := qt'.2.1; have q2 := qu'.2.1; omega))
      have tc9' := nI_tI c9' (by first | omega | (have q1 := qt'.2.1; have q2 := qu'.2.1; omega))
      (try obtain rfl : t' = t := by omega)
      (try obtain rfl : u' = u := by omega)
      first | (exfalso; omega) | contradiction
  · intro t u c1 c2 c3 c4 c5 c6 a b n c7 c8 c9 c10 c11
    have qt := R.s6 t c1
    have qu := R.s6 u c2
    have tc3 := nI_tI c3 (by first | omega | (have q1 := qt.2.1; have q2 := qu.2.1; omega))
    have tc4 := nI_tI c4 (by first | omega | (have q1 := qt.2.1; have q2 := qu.2.1; omega))
    have tc7 := nI_tI c7 (by first | omega | (have q1 := qt.2.1; have q2 := qu.2.1; omega))
    have tc8 := nI_tI c8 (by first | omega | (have q1 := qt.2.1; have q2 := qu.2.1; omega))
    have tc9 := nI_tI c9 (by first | omega | (have q1 := qt.2.1; have q2 := qu.2.1; omega))
    refine ⟨⟨_, rfl⟩, ⟨_, hp_69⟩, ?_⟩
    have K := @r_copy S ((cpN N t u a b n)) X Y
    skip
    refine K R.xsh ?_ ?_ ?_ ?_ ?_
    · intro c1' X1 c2'
      first | (exfalso; omega) | contradiction
    · intro t' u' c1' c2' c3' c4' c5' X1 c6'
      have qt' := R.s6 t' c1'
      have qu' := R.s6 u' c2'
      rw [qt'.2.2.1] at c5'
      rw [qu'.2.2.1] at c5'
      have tc3' := nI_tI c3' (by first | omega | (have q1 := qt'.2.1; have q2 := qu'.2.1; omega))
      have tc4' := nI_tI c4' (by first | omega | (have q1 := qt'.2.1; have q2 := qu'.2.1; omega))
      (try obtain rfl : t' = t := by omega)
      (try obtain rfl : u' = u := by omega)
      first | (exfalso; omega) | contradiction
    · intro t' u' c1' c2' c3' c4' c5' c6' X1 c7'
      have qt' := R.s6 t' c1'
      have qu' := R.s6 u' c2'
      rw [qt'.2.2.1] at c5'
      rw [qu'.2.2.1] at c5'
      rw [qt'.2.2.1] at c6'
      rw [qu'.2.2.1] at c6'
      have tc3' := nI_tI c3' (by first | omega | (have q1 := qt'.2.1; have q2 := qu'.2.1; omega))
      have tc4' := nI_tI c4' (by first | omega | (have q1 := qt'.2.1; have q2 := qu'.2.1; omega))
      (try obtain rfl : t' = t := by omega)
      (try obtain rfl : u' = u := by omega)
      first | (exfalso; omega) | contradiction
    · intro t' u' c1' c2' c3' c4' c5' c6' c7' X1 c8'
      have qt' := R.s6 t' c1'
      have qu' := R.s6 u' c2'
      rw [qt'.2.2.1] at c5'
      rw [qu'.2.2.1] at c5'
      rw [qt'.2.2.1] at c6'
      rw [qu'.2.2.1] at c6'
      rw [qt'.2.2.2] at c7'
      rw [qu'.2.2.2] at c7'
      have tc3' := nI_tI c3' (by first | omega | (have q1 := qt'.2.1; have q2 := qu'.2.1; omega))
      have tc4' := nI_tI c4' (by first | omega | (have q1 := qt'.2.1; have q2 := qu'.2.1; omega))
      (try obtain rfl : t' = t := by omega)
      (try obtain rfl : u' = u := by omega)
      first | (exfalso; omega) | contradiction
    · intro t' u' c1' c2' c3' c4' c5' c6' a' b' n' c7' c8' c9' c10' c11'
      have qt' := R.s6 t' c1'
      have qu' := R.s6 u' c2'
      rw [qt'.2.2.1] at c5'
      rw [qu'.2.2.1] at c5'
      rw [qt'.2.2.1] at c6'
      rw [qu'.2.2.1] at c6'
      rw [qt'.2.2.2] at c10'
      rw [qu'.2.2.2] at c11'
      have tc3' := nI_tI c3' (by first | omega | (have q1 := qt'.2.1; have q2 := qu'.2.1; omega))
      have tc4' := nI_tI c4' (by first | omega | (have q1 := qt'.2.1; have q2 := qu'.2.1; omega))
      have tc7' := nI_tI c7' (by first | omega | (have q1 := qt'.2.1; have q2 := qu'.2.1; omega))
      have tc8' := nI_tI c8' (by first | omega | (have q1 := qt'.2.1; have q2 := qu'.2.1; omega))
      have tc9' := nI_tI c9' (by first | omega | (have q1 := qt'.2.1; have q2 := qu'.2.1; omega))
      obtain rfl : t' = t := by omega
      obtain rfl : u' = u := by omega
      obtain rfl : a' = a := by omega
      obtain rfl : b' = b := by omega
      obtain rfl : n' = n := by omega
      exact ⟨rfl, _, _, _, _, rfl, R.cp c1 c2 (by omega) (by omega)⟩

set_option maxHeartbeats 4000000 in
set_option maxRecDepth 100000 in
theorem p_lays {S : St} {N : Nat → Nat → Int64} {X : St} {Y : Nat → Int64} (R : Rel S N X Y) {x : Int32} : Cn 3 yX3_lays cX3_lays 7 (some .int) [.ref 0, .int x] (hp S N X Y) (fun ans h => (∃ z, ans = some (.int z)) ∧ (∃ fs, h 69 = .inr (4, fs)) ∧ Cn 4 yX4_lays cX4_lays 6 (some .int) [.ref 69, .int x] h (Pq ans)) := by
  have e0 := R.x0
  have hco := R.wf.co
  have hlo := R.wf.lo
  have hmo := R.wf.mo
  refine c_lays R.wf R.sh ?_ ?_ ?_
  · intro c1 S1 c2
    refine ⟨⟨_, rfl⟩, ⟨_, hp_69⟩, ?_⟩
    have K := @r_lays S1 N X Y
    rw [e0] at K
    refine K R.xsh ?_ ?_ ?_
    · intro c1' X1 c2'
      exact ⟨rfl, _, _, _, _, rfl, R.cf c2 c2' (by decide)⟩
    · intro t' c1' c2' c3' X1 c4'
      have qt' := R.s6 t' c1'
      rw [qt'.2.2.1] at c3'
      have tc2' := nI_tI c2' (by omega)
      first | (exfalso; omega) | contradiction
    · intro t' c1' c2' c3' X1 c4'
      have qt' := R.s6 t' c1'
      rw [qt'.2.2.1] at c3'
      rw [qt'.2.2.2] at c4'
      have tc2' := nI_tI c2' (by omega)
      first | (exfalso; omega) | contradiction
  · intro t c1 c2 c3 S1 c4
    have qt := R.s6 t c1
    have tc2 := nI_tI c2 (by omega)
    refine ⟨⟨_, rfl⟩, ⟨_, hp_69⟩, ?_⟩
    have K := @r_lays S1 N X Y
    rw [e0] at K
    refine K R.xsh ?_ ?_ ?_
    · intro c1' X1 c2'
      first | (exfalso; omega) | contradiction
    · intro t' c1' c2' c3' X1 c4'
      have qt' := R.s6 t' c1'
      rw [qt'.2.2.1] at c3'
      have tc2' := nI_tI c2' (by omega)
      obtain rfl : t' = t := by omega
      exact ⟨rfl, _, _, _, _, rfl, R.cf c4 c4' (by decide)⟩
    · intro t' c1' c2' c3' X1 c4'
      have qt' := R.s6 t' c1'
      rw [qt'.2.2.1] at c3'
      rw [qt'.2.2.2] at c4'
      have tc2' := nI_tI c2' (by omega)
      (try obtain rfl : t' = t := by omega)
      first | (exfalso; omega) | contradiction
  · intro t c1 c2 c3 S1 c4
    have qt := R.s6 t c1
    have tc2 := nI_tI c2 (by omega)
    refine ⟨⟨_, rfl⟩, ⟨_, hp_69⟩, ?_⟩
    have K := @r_lays S1 N X Y
    rw [e0] at K
    refine K R.xsh ?_ ?_ ?_
    · intro c1' X1 c2'
      first | (exfalso; omega) | contradiction
    · intro t' c1' c2' c3' X1 c4'
      have qt' := R.s6 t' c1'
      rw [qt'.2.2.1] at c3'
      have tc2' := nI_tI c2' (by omega)
      (try obtain rfl : t' = t := by omega)
      first | (exfalso; omega) | contradiction
    · intro t' c1' c2' c3' X1 c4'
      have qt' := R.s6 t' c1'
      rw [qt'.2.2.1] at c3'
      rw [qt'.2.2.2] at c4'
      have tc2' := nI_tI c2' (by omega)
      obtain rfl : t' = t := by omega
      have hcg : ∀ i, i < min (S 6 t' 1) 12 → Y (40 * t' + i) = N t' i := fun i hi => R.ny _ _ c1 (by omega)
      rw [layM_cong hcg] at c4'
      rw [qt'.2.2.2, layN_cong hcg]
      exact ⟨rfl, _, _, _, _, rfl, R.cc c4 c4' ⟨wf_layM R.wf _ _, wl_layM R.wl _ _⟩⟩

set_option maxHeartbeats 4000000 in
set_option maxRecDepth 100000 in
theorem p_book {S : St} {N : Nat → Nat → Int64} {X : St} {Y : Nat → Int64} (R : Rel S N X Y) {x z : Int32} : Cn 7 yX3_book cX3_book 6 (some .int) [.ref 0, .int x, .int z] (hp S N X Y) (fun ans h => (∃ z, ans = some (.int z)) ∧ (∃ fs, h 69 = .inr (4, fs)) ∧ Cn 11 yX4_book cX4_book 5 (some .int) [.ref 69, .int x, .int z] h (Pq ans)) := by
  have e0 := R.x0
  have hco := R.wf.co
  have hlo := R.wf.lo
  have hmo := R.wf.mo
  refine c_book R.wf R.sh ?_ ?_ ?_ ?_ ?_
  · intro c1 S1 c2
    refine ⟨⟨_, rfl⟩, ⟨_, hp_69⟩, ?_⟩
    have K := @r_book S1 N X Y
    rw [e0] at K
    refine K R.wf R.wl R.xsh ?_ ?_ ?_ ?_ ?_
    · intro c1' X1 c2'
      exact ⟨rfl, _, _, _, _, rfl, R.cf c2 c2' (by decide)⟩
    · intro t' c1' c2' c3' X1 c4'
      have qt' := R.s6 t' c1'
      rw [qt'.2.2.1] at c3'
      have tc2' := nI_tI c2' (by omega)
      first | (exfalso; omega) | contradiction
    · intro t' c1' c2' c3' c4' X1 c5'
      have qt' := R.s6 t' c1'
      rw [qt'.2.2.1] at c3'
      have tc2' := nI_tI c2' (by omega)
      first | (exfalso; omega) | contradiction
    · intro t' n' c1' c2' c3' c4' c5' c6' X1 c7'
      have qt' := R.s6 t' c1'
      rw [qt'.2.2.1] at c3'
      have tc2' := nI_tI c2' (by omega)
      have tc5' := nI_tI c5' (by omega)
      first | (exfalso; omega) | contradiction
    · intro t' n' c1' c2' c3' c4' c5' c6' X1 c7'
      have qt' := R.s6 t' c1'
      rw [qt'.2.2.1] at c3'
      have tc2' := nI_tI c2' (by omega)
      have tc5' := nI_tI c5' (by omega)
      first | (exfalso; omega) | contradiction
  · intro t c1 c2 c3 S1 c4
    have qt := R.s6 t c1
    have tc2 := nI_tI c2 (by omega)
    refine ⟨⟨_, rfl⟩, ⟨_, hp_69⟩, ?_⟩
    have K := @r_book S1 N X Y
    rw [e0] at K
    refine K R.wf R.wl R.xsh ?_ ?_ ?_ ?_ ?_
    · intro c1' X1 c2'
      first | (exfalso; omega) | contradiction
    · intro t' c1' c2' c3' X1 c4'
      have qt' := R.s6 t' c1'
      rw [qt'.2.2.1] at c3'
      have tc2' := nI_tI c2' (by omega)
      obtain rfl : t' = t := by omega
      exact ⟨rfl, _, _, _, _, rfl, R.cf c4 c4' (by decide)⟩
    · intro t' c1' c2' c3' c4' X1 c5'
      have qt' := R.s6 t' c1'
      rw [qt'.2.2.1] at c3'
      have tc2' := nI_tI c2' (by omega)
      (try obtain rfl : t' = t := by omega)
      first | (exfalso; omega) | contradiction
    · intro t' n' c1' c2' c3' c4' c5' c6' X1 c7'
      have qt' := R.s6 t' c1'
      rw [qt'.2.2.1] at c3'
      have tc2' := nI_tI c2' (by omega)
      have tc5' := nI_tI c5' (by omega)
      (try obtain rfl : t' = t := by omega)
      first | (exfalso; omega) | contradiction
    · intro t' n' c1' c2' c3' c4' c5' c6' X1 c7'
      have qt' := R.s6 t' c1'
      rw [qt'.2.2.1] at c3'
      have tc2' := nI_tI c2' (by omega)
      have tc5' := nI_tI c5' (by omega)
      (try obtain rfl : t' = t := by omega)
      first | (exfalso; omega) | contradiction
  · intro t c1 c2 c3 c4 S1 c5
    have qt := R.s6 t c1
    have tc2 := nI_tI c2 (by omega)
    refine ⟨⟨_, rfl⟩, ⟨_, hp_69⟩, ?_⟩
    have K := @r_book S1 N X Y
    rw [e0] at K
    refine K R.wf R.wl R.xsh ?_ ?_ ?_ ?_ ?_
    · intro c1' X1 c2'
      first | (exfalso; omega) | contradiction
    · intro t' c1' c2' c3' X1 c4'
      have qt' := R.s6 t' c1'
      rw [qt'.2.2.1] at c3'
      have tc2' := nI_tI c2' (by omega)
      (try obtain rfl : t' = t := by omega)
      first | (exfalso; omega) | contradiction
    · intro t' c1' c2' c3' c4' X1 c5'
      have qt' := R.s6 t' c1'
      rw [qt'.2.2.1] at c3'
      have tc2' := nI_tI c2' (by omega)
      obtain rfl : t' = t := by omega
      exact ⟨rfl, _, _, _, _, rfl, R.cf c5 c5' (by decide)⟩
    · intro t' n' c1' c2' c3' c4' c5' c6' X1 c7'
      have qt' := R.s6 t' c1'
      rw [qt'.2.2.1] at c3'
      have tc2' := nI_tI c2' (by omega)
      have tc5' := nI_tI c5' (by omega)
      (try obtain rfl : t' = t := by omega)
      first | (exfalso; omega) | contradiction
    · intro t' n' c1' c2' c3' c4' c5' c6' X1 c7'
      have qt' := R.s6 t' c1'
      rw [qt'.2.2.1] at c3'
      have tc2' := nI_tI c2' (by omega)
      have tc5' := nI_tI c5' (by omega)
      (try obtain rfl : t' = t := by omega)
      first | (exfalso; omega) | contradiction
  · intro t n c1 c2 c3 c4 c5 c6 S1 c7
    have qt := R.s6 t c1
    have tc2 := nI_tI c2 (by omega)
    have tc5 := nI_tI c5 (by omega)
    refine ⟨⟨_, rfl⟩, ⟨_, hp_69⟩, ?_⟩
    have K := @r_book S1 N X Y
    rw [e0] at K
    refine K R.wf R.wl R.xsh ?_ ?_ ?_ ?_ ?_
    · intro c1' X1 c2'
      first | (exfalso; omega) | contradiction
    · intro t' c1' c2' c3' X1 c4'
      have qt' := R.s6 t' c1'
      rw [qt'.2.2.1] at c3'
      have tc2' := nI_tI c2' (by omega)
      (try obtain rfl : t' = t := by omega)
      first | (exfalso; omega) | contradiction
    · intro t' c1' c2' c3' c4' X1 c5'
      have qt' := R.s6 t' c1'
      rw [qt'.2.2.1] at c3'
      have tc2' := nI_tI c2' (by omega)
      (try obtain rfl : t' = t := by omega)
      first | (exfalso; omega) | contradiction
    · intro t' n' c1' c2' c3' c4' c5' c6' X1 c7'
      have qt' := R.s6 t' c1'
      rw [qt'.2.2.1] at c3'
      have tc2' := nI_tI c2' (by omega)
      have tc5' := nI_tI c5' (by omega)
      obtain rfl : t' = t := by omega
      obtain rfl : n' = n := by omega
      exact ⟨rfl, _, _, _, _, rfl, R.cf c7 c7' (by decide)⟩
    · intro t' n' c1' c2' c3' c4' c5' c6' X1 c7'
      have qt' := R.s6 t' c1'
      rw [qt'.2.2.1] at c3'
      have tc2' := nI_tI c2' (by omega)
      have tc5' := nI_tI c5' (by omega)
      (try obtain rfl : t' = t := by omega)
      (try obtain rfl : n' = n := by omega)
      first | (exfalso; omega) | contradiction
  · intro t n c1 c2 c3 c4 c5 c6 S1 c7
    have qt := R.s6 t c1
    have tc2 := nI_tI c2 (by omega)
    have tc5 := nI_tI c5 (by omega)
    refine ⟨⟨_, rfl⟩, ⟨_, hp_69⟩, ?_⟩
    have K := @r_book S1 ((bkN N t (S 6 t 0) (fun c => wrt (agN (S 0) n) c) (min (S 0 13 0) (S 6 t 1)))) X Y
    rw [e0] at K
    refine K R.wf R.wl R.xsh ?_ ?_ ?_ ?_ ?_
    · intro c1' X1 c2'
      first | (exfalso; omega) | contradiction
    · intro t' c1' c2' c3' X1 c4'
      have qt' := R.s6 t' c1'
      rw [qt'.2.2.1] at c3'
      have tc2' := nI_tI c2' (by omega)
      (try obtain rfl : t' = t := by omega)
      first | (exfalso; omega) | contradiction
    · intro t' c1' c2' c3' c4' X1 c5'
      have qt' := R.s6 t' c1'
      rw [qt'.2.2.1] at c3'
      have tc2' := nI_tI c2' (by omega)
      (try obtain rfl : t' = t := by omega)
      first | (exfalso; omega) | contradiction
    · intro t' n' c1' c2' c3' c4' c5' c6' X1 c7'
      have qt' := R.s6 t' c1'
      rw [qt'.2.2.1] at c3'
      have tc2' := nI_tI c2' (by omega)
      have tc5' := nI_tI c5' (by omega)
      (try obtain rfl : t' = t := by omega)
      (try obtain rfl : n' = n := by omega)
      first | (exfalso; omega) | contradiction
    · intro t' n' c1' c2' c3' c4' c5' c6' X1 c7'
      have qt' := R.s6 t' c1'
      rw [qt'.2.2.1] at c3'
      have tc2' := nI_tI c2' (by omega)
      have tc5' := nI_tI c5' (by omega)
      rw [qt'.2.2.1, qt'.2.2.2]
      obtain rfl : t' = t := by omega
      obtain rfl : n' = n := by omega
      exact ⟨rfl, _, _, _, _, rfl, (R.cc c7 c7' R.ww).bk c1 (by have := qt.2.1; omega) (fun c => ag_wrt _ _ _)⟩

set_option maxHeartbeats 4000000 in
set_option maxRecDepth 100000 in
theorem p_read {S : St} {N : Nat → Nat → Int64} {X : St} {Y : Nat → Int64} (R : Rel S N X Y) {x y : Int32} : Cn 19 yX3_read cX3_read 5 (some .int) [.ref 0, .int x, .int y] (hp S N X Y) (fun ans h => (∃ z, ans = some (.int z)) ∧ (∃ fs, h 69 = .inr (4, fs)) ∧ Cn 11 yX4_read cX4_read 5 (some .int) [.ref 69, .int x, .int y] h (Pq ans)) := by
  have e0 := R.x0
  have hco := R.wf.co
  have hlo := R.wf.lo
  have hmo := R.wf.mo
  refine c_read R.wf R.sh ?_ ?_ ?_ ?_ ?_ ?_
  · intro c1 S1 c2
    refine ⟨⟨_, rfl⟩, ⟨_, hp_69⟩, ?_⟩
    have K := @r_read S1 N X Y
    rw [e0] at K
    refine K R.wf R.wl R.xsh ?_ ?_ ?_ ?_ ?_ ?_
    · intro c1' X1 c2'
      exact ⟨rfl, _, _, _, _, rfl, R.cf c2 c2' (by decide)⟩
    · intro t' c1' c2' c3' X1 c4'
      have qt' := R.s6 t' c1'
      rw [qt'.2.2.1] at c3'
      have tc2' := nI_tI c2' (by omega)
      first | (exfalso; omega) | contradiction
    · intro t' c1' c2' c3' c4' X1 c5'
      have qt' := R.s6 t' c1'
      rw [qt'.2.2.1] at c3'
      have tc2' := nI_tI c2' (by omega)
      first | (exfalso; omega) | contradiction
    · intro t' c1' c2' c3' c4' c5' X1 c6'
      have qt' := R.s6 t' c1'
      rw [qt'.2.2.1] at c3'
      have tc2' := nI_tI c2' (by omega)
      first | (exfalso; omega) | contradiction
    · intro t' c1' c2' c3' f' c' c4' c5' c6' c7' c8' c9' X1 c10'
      have qt' := R.s6 t' c1'
      rw [qt'.2.2.1] at c3'
      rw [qt'.2.2.2] at c7'
      have tc2' := nI_tI c2' (by omega)
      have tc5' := nI_tI c5' (by omega)
      first | (exfalso; omega) | contradiction
    · intro t' c1' c2' c3' f' c4' c5' c6' c7' X1 c8'
      have qt' := R.s6 t' c1'
      rw [qt'.2.2.1] at c3'
      rw [qt'.2.2.2] at c7'
      have tc2' := nI_tI c2' (by omega)
      have tc5' := nI_tI c5' (by omega)
      first | (exfalso; omega) | contradiction
  · intro t c1 c2 c3 S1 c4
    have qt := R.s6 t c1
    have tc2 := nI_tI c2 (by omega)
    refine ⟨⟨_, rfl⟩, ⟨_, hp_69⟩, ?_⟩
    have K := @r_read S1 N X Y
    rw [e0] at K
    refine K R.wf R.wl R.xsh ?_ ?_ ?_ ?_ ?_ ?_
    · intro c1' X1 c2'
      first | (exfalso; omega) | contradiction
    · intro t' c1' c2' c3' X1 c4'
      have qt' := R.s6 t' c1'
      rw [qt'.2.2.1] at c3'
      have tc2' := nI_tI c2' (by omega)
      obtain rfl : t' = t := by omega
      exact ⟨rfl, _, _, _, _, rfl, R.cf c4 c4' (by decide)⟩
    · intro t' c1' c2' c3' c4' X1 c5'
      have qt' := R.s6 t' c1'
      rw [qt'.2.2.1] at c3'
      have tc2' := nI_tI c2' (by omega)
      (try obtain rfl : t' = t := by omega)
      first | (exfalso; omega) | contradiction
    · intro t' c1' c2' c3' c4' c5' X1 c6'
      have qt' := R.s6 t' c1'
      rw [qt'.2.2.1] at c3'
      have tc2' := nI_tI c2' (by omega)
      (try obtain rfl : t' = t := by omega)
      first | (exfalso; omega) | contradiction
    · intro t' c1' c2' c3' f' c' c4' c5' c6' c7' c8' c9' X1 c10'
      have qt' := R.s6 t' c1'
      rw [qt'.2.2.1] at c3'
      rw [qt'.2.2.2] at c7'
      have tc2' := nI_tI c2' (by omega)
      have tc5' := nI_tI c5' (by omega)
      (try obtain rfl : t' = t := by omega)
      first | (exfalso; omega) | contradiction
    · intro t' c1' c2' c3' f' c4' c5' c6' c7' X1 c8'
      have qt' := R.s6 t' c1'
      rw [qt'.2.2.1] at c3'
      rw [qt'.2.2.2] at c7'
      have tc2' := nI_tI c2' (by omega)
      have tc5' := nI_tI c5' (by omega)
      (try obtain rfl : t' = t := by omega)
      first | (exfalso; omega) | contradiction
  · intro t c1 c2 c3 c4 S1 c5
    have qt := R.s6 t c1
    have tc2 := nI_tI c2 (by omega)
    refine ⟨⟨_, rfl⟩, ⟨_, hp_69⟩, ?_⟩
    have K := @r_read S1 N X Y
    rw [e0] at K
    refine K R.wf R.wl R.xsh ?_ ?_ ?_ ?_ ?_ ?_
    · intro c1' X1 c2'
      first | (exfalso; omega) | contradiction
    · intro t' c1' c2' c3' X1 c4'
      have qt' := R.s6 t' c1'
      rw [qt'.2.2.1] at c3'
      have tc2' := nI_tI c2' (by omega)
      (try obtain rfl : t' = t := by omega)
      first | (exfalso; omega) | contradiction
    · intro t' c1' c2' c3' c4' X1 c5'
      have qt' := R.s6 t' c1'
      rw [qt'.2.2.1] at c3'
      have tc2' := nI_tI c2' (by omega)
      obtain rfl : t' = t := by omega
      exact ⟨rfl, _, _, _, _, rfl, R.cf c5 c5' (by decide)⟩
    · intro t' c1' c2' c3' c4' c5' X1 c6'
      have qt' := R.s6 t' c1'
      rw [qt'.2.2.1] at c3'
      have tc2' := nI_tI c2' (by omega)
      (try obtain rfl : t' = t := by omega)
      first | (exfalso; omega) | contradiction
    · intro t' c1' c2' c3' f' c' c4' c5' c6' c7' c8' c9' X1 c10'
      have qt' := R.s6 t' c1'
      rw [qt'.2.2.1] at c3'
      rw [qt'.2.2.2] at c7'
      have tc2' := nI_tI c2' (by omega)
      have tc5' := nI_tI c5' (by omega)
      (try obtain rfl : t' = t := by omega)
      first | (exfalso; omega) | contradiction
    · intro t' c1' c2' c3' f' c4' c5' c6' c7' X1 c8'
      have qt' := R.s6 t' c1'
      rw [qt'.2.2.1] at c3'
      rw [qt'.2.2.2] at c7'
      have tc2' := nI_tI c2' (by omega)
      have tc5' := nI_tI c5' (by omega)
      (try obtain rfl : t' = t := by omega)
      first | (exfalso; omega) | contradiction
  · intro t c1 c2 c3 c4 c5 S1 c6
    have qt := R.s6 t c1
    have tc2 := nI_tI c2 (by omega)
    refine ⟨⟨_, rfl⟩, ⟨_, hp_69⟩, ?_⟩
    have K := @r_read S1 N X Y
    rw [e0] at K
    refine K R.wf R.wl R.xsh ?_ ?_ ?_ ?_ ?_ ?_
    · intro c1' X1 c2'
      first | (exfalso; omega) | contradiction
    · intro t' c1' c2' c3' X1 c4'
      have qt' := R.s6 t' c1'
      rw [qt'.2.2.1] at c3'
      have tc2' := nI_tI c2' (by omega)
      (try obtain rfl : t' = t := by omega)
      first | (exfalso; omega) | contradiction
    · intro t' c1' c2' c3' c4' X1 c5'
      have qt' := R.s6 t' c1'
      rw [qt'.2.2.1] at c3'
      have tc2' := nI_tI c2' (by omega)
      (try obtain rfl : t' = t := by omega)
      first | (exfalso; omega) | contradiction
    · intro t' c1' c2' c3' c4' c5' X1 c6'
      have qt' := R.s6 t' c1'
      rw [qt'.2.2.1] at c3'
      have tc2' := nI_tI c2' (by omega)
      obtain rfl : t' = t := by omega
      exact ⟨rfl, _, _, _, _, rfl, R.cf c6 c6' (by decide)⟩
    · intro t' c1' c2' c3' f' c' c4' c5' c6' c7' c8' c9' X1 c10'
      have qt' := R.s6 t' c1'
      rw [qt'.2.2.1] at c3'
      rw [qt'.2.2.2] at c7'
      have tc2' := nI_tI c2' (by omega)
      have tc5' := nI_tI c5' (by omega)
      (try obtain rfl : t' = t := by omega)
      first | (exfalso; omega) | contradiction
    · intro t' c1' c2' c3' f' c4' c5' c6' c7' X1 c8'
      have qt' := R.s6 t' c1'
      rw [qt'.2.2.1] at c3'
      rw [qt'.2.2.2] at c7'
      have tc2' := nI_tI c2' (by omega)
      have tc5' := nI_tI c5' (by omega)
      (try obtain rfl : t' = t := by omega)
      first | (exfalso; omega) | contradiction
  · intro t f c c1 c2 c3 c4 c5 c6 c7 c8 c9 S1 c10
    have qt := R.s6 t c1
    have tc2 := nI_tI c2 (by omega)
    have tc5 := nI_tI c5 (by omega)
    refine ⟨⟨_, rfl⟩, ⟨_, hp_69⟩, ?_⟩
    have K := @r_read S1 N X Y
    rw [e0] at K
    refine K R.wf R.wl R.xsh ?_ ?_ ?_ ?_ ?_ ?_
    · intro c1' X1 c2'
      first | (exfalso; omega) | contradiction
    · intro t' c1' c2' c3' X1 c4'
      have qt' := R.s6 t' c1'
      rw [qt'.2.2.1] at c3'
      have tc2' := nI_tI c2' (by omega)
      (try obtain rfl : t' = t := by omega)
      first | (exfalso; omega) | contradiction
    · intro t' c1' c2' c3' c4' X1 c5'
      have qt' := R.s6 t' c1'
      rw [qt'.2.2.1] at c3'
      have tc2' := nI_tI c2' (by omega)
      (try obtain rfl : t' = t := by omega)
      first | (exfalso; omega) | contradiction
    · intro t' c1' c2' c3' c4' c5' X1 c6'
      have qt' := R.s6 t' c1'
      rw [qt'.2.2.1] at c3'
      have tc2' := nI_tI c2' (by omega)
      (try obtain rfl : t' = t := by omega)
      first | (exfalso; omega) | contradiction
    · intro t' c1' c2' c3' f' c' c4' c5' c6' c7' c8' c9' X1 c10'
      have qt' := R.s6 t' c1'
      rw [qt'.2.2.1] at c3'
      rw [qt'.2.2.2] at c7'
      have tc2' := nI_tI c2' (by omega)
      have tc5' := nI_tI c5' (by omega)
      obtain rfl : t' = t := by omega
      obtain rfl : f' = f := by omega
      have q40 := qt.2.1
      rw [R.ny _ _ c1 (by omega)] at c8'
      obtain rfl : c' = c := by
        rcases Nat.lt_trichotomy c' c with h | h | h
        · exact absurd (c9 _ h) c8'
        · exact h
        · exact absurd ((R.ny _ _ c1 (by omega)).symm.trans (c9' _ h)) c8
      exact ⟨rfl, _, _, _, _, rfl, R.cc c10 c10' R.ww⟩
    · intro t' c1' c2' c3' f' c4' c5' c6' c7' X1 c8'
      have qt' := R.s6 t' c1'
      rw [qt'.2.2.1] at c3'
      rw [qt'.2.2.2] at c7'
      have tc2' := nI_tI c2' (by omega)
      have tc5' := nI_tI c5' (by omega)
      obtain rfl : t' = t := by omega
      obtain rfl : f' = f := by omega
      have q40 := qt.2.1
      exact absurd ((R.ny _ _ c1 (by omega)).symm.trans (c7' _ c7)) c8
  · intro t f c1 c2 c3 c4 c5 c6 c7 S1 c8
    have qt := R.s6 t c1
    have tc2 := nI_tI c2 (by omega)
    have tc5 := nI_tI c5 (by omega)
    refine ⟨⟨_, rfl⟩, ⟨_, hp_69⟩, ?_⟩
    have K := @r_read S1 N X Y
    rw [e0] at K
    refine K R.wf R.wl R.xsh ?_ ?_ ?_ ?_ ?_ ?_
    · intro c1' X1 c2'
      first | (exfalso; omega) | contradiction
    · intro t' c1' c2' c3' X1 c4'
      have qt' := R.s6 t' c1'
      rw [qt'.2.2.1] at c3'
      have tc2' := nI_tI c2' (by omega)
      (try obtain rfl : t' = t := by omega)
      first | (exfalso; omega) | contradiction
    · intro t' c1' c2' c3' c4' X1 c5'
      have qt' := R.s6 t' c1'
      rw [qt'.2.2.1] at c3'
      have tc2' := nI_tI c2' (by omega)
      (try obtain rfl : t' = t := by omega)
      first | (exfalso; omega) | contradiction
    · intro t' c1' c2' c3' c4' c5' X1 c6'
      have qt' := R.s6 t' c1'
      rw [qt'.2.2.1] at c3'
      have tc2' := nI_tI c2' (by omega)
      (try obtain rfl : t' = t := by omega)
      first | (exfalso; omega) | contradiction
    · intro t' c1' c2' c3' f' c' c4' c5' c6' c7' c8' c9' X1 c10'
      have qt' := R.s6 t' c1'
      rw [qt'.2.2.1] at c3'
      rw [qt'.2.2.2] at c7'
      have tc2' := nI_tI c2' (by omega)
      have tc5' := nI_tI c5' (by omega)
      obtain rfl : t' = t := by omega
      obtain rfl : f' = f := by omega
      have q40 := qt.2.1
      rw [R.ny _ _ c1 (by omega)] at c8'
      exact absurd (c7 _ c7') c8'
    · intro t' c1' c2' c3' f' c4' c5' c6' c7' X1 c8'
      have qt' := R.s6 t' c1'
      rw [qt'.2.2.1] at c3'
      rw [qt'.2.2.2] at c7'
      have tc2' := nI_tI c2' (by omega)
      have tc5' := nI_tI c5' (by omega)
      obtain rfl : t' = t := by omega
      obtain rfl : f' = f := by omega
      exact ⟨rfl, _, _, _, _, rfl, R.cc c8 c8' R.ww⟩
