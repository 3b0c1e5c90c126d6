section LOX
variable {d : Nat} {own : String} {cc : ByteArray} {nL : Nat} {ret : Option FieldType} {pc : Nat} {st : List Value} {h : AH} {Q : Option Value → AH → Prop}
theorem go_lz {a : Option Value} {c : Value} (k : Go d own cc nL ret pc [a, none] st h Q) : Go d own cc nL ret pc [a, some c] st h Q := by
  intro p l e s m args below meth c α cA D H locs ls C hP hS hl
  refine k p l e s m args below meth c α cA D H locs ls C hP hS (hl.forget fun i v hi => ?_)
  match i, hi with
  | 0, hi => exact hi
  | 1, hi => cases hi
end LOX

set_option maxHeartbeats 4000000 in
set_option maxRecDepth 100000 in
theorem r_byteAt {S : St} {N : Nat → Nat → Int64} {X : St} {Y : Nat → Int64} {Q : Option Value → AH → Prop} {i : Nat} (hi : i < 2 ^ 31) (hL : X 3 4 1 ≤ 120) (hQ : Q (some (.int (bt (X 3 1) (X 3 4 1) i))) (hp S N X Y)) : Cn 0 yX4_byteAt cX4_byteAt 2 (some .int) [.ref 69, .int (nI i)] (hp S N X Y) Q := by
  refine cn_of (own := RX4) (lo := [some (.ref 69), some (.int (nI i))]) 0 rfl (by decide +kernel) rfl (Nat.le_of_ble_eq_true rfl) ?_
  refine go_iloadn1 (q := 1) dX4_byteAt_0 rfl ?_
  refine go_aloadn0 (q := 2) dX4_byteAt_1 rfl ?_
  refine go_xg (q := 5) dX4_byteAt_2 fl_X4_190 rfl rfl ?_
  refine go_icmp_geN (tgt := 17) (q := 8) dX4_byteAt_5 (by decide) rfl (by omega) (by omega) (fun h1 => ?_) (fun h1 => ?_)
  · skip
    refine go_iconstV (v := -1) (q := 18) dX4_byteAt_17 (by decide) rfl ?_
    exact go_iretE dX4_byteAt_18 rfl (bt_n (by omega)) hQ
  · skip
    refine go_aloadn0 (q := 9) dX4_byteAt_8 rfl ?_
    refine go_xg (q := 12) dX4_byteAt_9 fl_X4_22 rfl rfl ?_
    refine go_iloadn1 (q := 13) dX4_byteAt_12 rfl ?_
    refine go_xtld (q := 14) dX4_byteAt_13 (by omega) rfl ?_
    refine go_goto (tgt := 18) dX4_byteAt_14 (by decide) ?_
    exact go_iretE dX4_byteAt_18 rfl (bt_y (by omega)) hQ

set_option maxHeartbeats 4000000 in
set_option maxRecDepth 100000 in
theorem r_isLetter {S : St} {N : Nat → Nat → Int64} {X : St} {Y : Nat → Int64} {Q : Option Value → AH → Prop} {x : Int32} (hQ : Q (some (.int (bI (¬ x < nI 97 ∧ ¬ nI 122 < x)))) (hp S N X Y)) : Cn 0 yX4_isLetter cX4_isLetter 1 (some .boolean) [.int x] (hp S N X Y) Q := by
  refine cn_of (own := RX4) (lo := [some (.int x)]) 0 rfl (by decide +kernel) rfl (Nat.le_of_ble_eq_true rfl) ?_
  refine go_iloadn0 (q := 1) dX4_isLetter_0 rfl ?_
  refine go_bipushN (v := 97) (q := 3) dX4_isLetter_1 (by decide) rfl ?_
  refine go_icmp_lt (tgt := 16) (q := 6) dX4_isLetter_3 (by decide) rfl (fun h1 => ?_) (fun h1 => ?_)
  · skip
    refine go_iconstN (n := 0) (q := 17) dX4_isLetter_16 rfl ?_
    exact go_zretF dX4_isLetter_17 rfl (fun z => absurd h1 z.1) hQ
  · skip
    refine go_iloadn0 (q := 7) dX4_isLetter_6 rfl ?_
    refine go_bipushN (v := 122) (q := 9) dX4_isLetter_7 (by decide) rfl ?_
    refine go_icmp_gt (tgt := 16) (q := 12) dX4_isLetter_9 (by decide) rfl (fun h2 => ?_) (fun h2 => ?_)
    · skip
      refine go_iconstN (n := 0) (q := 17) dX4_isLetter_16 rfl ?_
      exact go_zretF dX4_isLetter_17 rfl (fun z => absurd h2 z.2) hQ
    · skip
      refine go_iconstN (n := 1) (q := 13) dX4_isLetter_12 rfl ?_
      refine go_goto (tgt := 17) dX4_isLetter_13 (by decide) ?_
      exact go_zretT dX4_isLetter_17 rfl ⟨h1, h2⟩ hQ

set_option maxHeartbeats 4000000 in
set_option maxRecDepth 100000 in
theorem r_isDigit {S : St} {N : Nat → Nat → Int64} {X : St} {Y : Nat → Int64} {Q : Option Value → AH → Prop} {x : Int32} (hQ : Q (some (.int (bI (¬ x < nI 48 ∧ ¬ nI 57 < x)))) (hp S N X Y)) : Cn 0 yX4_isDigit cX4_isDigit 1 (some .boolean) [.int x] (hp S N X Y) Q := by
  refine cn_of (own := RX4) (lo := [some (.int x)]) 0 rfl (by decide +kernel) rfl (Nat.le_of_ble_eq_true rfl) ?_
  refine go_iloadn0 (q := 1) dX4_isDigit_0 rfl ?_
  refine go_bipushN (v := 48) (q := 3) dX4_isDigit_1 (by decide) rfl ?_
  refine go_icmp_lt (tgt := 16) (q := 6) dX4_isDigit_3 (by decide) rfl (fun h1 => ?_) (fun h1 => ?_)
  · skip
    refine go_iconstN (n := 0) (q := 17) dX4_isDigit_16 rfl ?_
    exact go_zretF dX4_isDigit_17 rfl (fun z => absurd h1 z.1) hQ
  · skip
    refine go_iloadn0 (q := 7) dX4_isDigit_6 rfl ?_
    refine go_bipushN (v := 57) (q := 9) dX4_isDigit_7 (by decide) rfl ?_
    refine go_icmp_gt (tgt := 16) (q := 12) dX4_isDigit_9 (by decide) rfl (fun h2 => ?_) (fun h2 => ?_)
    · skip
      refine go_iconstN (n := 0) (q := 17) dX4_isDigit_16 rfl ?_
      exact go_zretF dX4_isDigit_17 rfl (fun z => absurd h2 z.2) hQ
    · skip
      refine go_iconstN (n := 1) (q := 13) dX4_isDigit_12 rfl ?_
      refine go_goto (tgt := 17) dX4_isDigit_13 (by decide) ?_
      exact go_zretT dX4_isDigit_17 rfl ⟨h1, h2⟩ hQ

set_option maxHeartbeats 4000000 in
set_option maxRecDepth 100000 in
theorem r_nextToken_211 {S : St} {N : Nat → Nat → Int64} {X : St} {Y : Nat → Int64} {Q : Option Value → AH → Prop} {s : Nat} (hO : ∀ X' v, Tq X X' (kd (X 3 1) (X 3 4 1) s) s (en (X 3 1) (X 3 4 1) s) v → am (X 3 1) (X 3 4 1) s = min 10000 v → v ≤ 99999 → Q none (hp S N X' Y)) {k e v : Nat} {X1 : St} (hk : k = kd (X 3 1) (X 3 4 1) s) (hk4 : k ≤ 4) (hen : en (X 3 1) (X 3 4 1) s = if 2 < k then e + 1 else e) (ham : am (X 3 1) (X 3 4 1) s = min 10000 v) (hv : v ≤ 99999) (g : Tq X X1 k s e v) : Go 2 RX4 cX4_nextToken 2 none 211 [some (.ref 69), none] [] (hp S N X1 Y) Q := by
  obtain ⟨x0, x1, x2, xj, y0, yL, yk, ys, ye, yv⟩ := id g
  have xB : X1 3 1 = X 3 1 := xj 1 (by decide)
  refine go_aloadn0 (q := 212) dX4_nextToken_211 rfl ?_
  refine go_dup (q := 213) dX4_nextToken_212 rfl rfl ?_
  refine go_xg (q := 216) dX4_nextToken_213 fl_X4_194 rfl rfl ?_
  rw [ye]
  refine go_aloadn0 (q := 217) dX4_nextToken_216 rfl ?_
  refine go_xg (q := 220) dX4_nextToken_217 fl_X4_209 rfl rfl ?_
  rw [yk]
  refine go_iconstN (n := 2) (q := 221) dX4_nextToken_220 rfl ?_
  refine go_icmp_leN (tgt := 228) (q := 224) dX4_nextToken_221 (by decide) rfl (by omega) (by omega) (fun h1 => ?_) (fun h1 => ?_)
  · skip
    refine go_iconstN (n := 0) (q := 229) dX4_nextToken_228 rfl ?_
    refine go_iaddN (q := 230) dX4_nextToken_229 rfl ?_
    refine go_xpf (f := 4) (q := 233) dX4_nextToken_230 fp_X4_194 (by omega) rfl ?_
    exact go_ret0 dX4_nextToken_233 rfl (hO _ v (by rw [hen, if_neg (by omega), ← hk]; exact g.e (e + 0)) ham hv)
  · skip
    refine go_iconstN (n := 1) (q := 225) dX4_nextToken_224 rfl ?_
    refine go_goto (tgt := 229) dX4_nextToken_225 (by decide) ?_
    refine go_iaddN (q := 230) dX4_nextToken_229 rfl ?_
    refine go_xpf (f := 4) (q := 233) dX4_nextToken_230 fp_X4_194 (by omega) rfl ?_
    exact go_ret0 dX4_nextToken_233 rfl (hO _ v (by rw [hen, if_pos (by omega), ← hk]; exact g.e (e + 1)) ham hv)

set_option maxHeartbeats 4000000 in
set_option maxRecDepth 100000 in
theorem r_nextToken_136 {S : St} {N : Nat → Nat → Int64} {X : St} {Y : Nat → Int64} {Q : Option Value → AH → Prop} (hL : X 3 4 1 ≤ 120) (hB : ∀ i, i < X 3 4 1 → X 3 1 i ≤ 255) {s : Nat} (hO : ∀ X' v, Tq X X' (kd (X 3 1) (X 3 4 1) s) s (en (X 3 1) (X 3 4 1) s) v → am (X 3 1) (X 3 4 1) s = min 10000 v → v ≤ 99999 → Q none (hp S N X' Y)) {k : Nat} (hk : k = kd (X 3 1) (X 3 4 1) s) (hk4 : k ≤ 4) : ∀ (fu : Nat) (e v : Nat) (X1 : St), X 3 4 1 - e < fu → (e ≤ X 3 4 1) → (v ≤ 99999) → (Tq X X1 k s e v) → (k = 2 → en (X 3 1) (X 3 4 1) s = sk (X 3 1) (X 3 4 1) 2 e ∧ am (X 3 1) (X 3 4 1) s = nm (X 3 1) (X 3 4 1) e (min 10000 v)) → (k ≠ 2 → en (X 3 1) (X 3 4 1) s = (if 2 < k then e + 1 else e) ∧ am (X 3 1) (X 3 4 1) s = min 10000 v) → Go 2 RX4 cX4_nextToken 2 none 136 [some (.ref 69), none] [] (hp S N X1 Y) Q := by
  intro fu
  induction fu with
  | zero => intro e v X1 hfu; exact absurd hfu (Nat.not_lt_zero _)
  | succ fu ih =>
    intro e v X1 hfu he hv g h2 hn
    obtain ⟨x0, x1, x2, xj, y0, yL, yk, ys, ye, yv⟩ := id g
    have xB : X1 3 1 = X 3 1 := xj 1 (by decide)
    refine go_aloadn0 (q := 137) dX4_nextToken_136 rfl ?_
    refine go_xg (q := 140) dX4_nextToken_137 fl_X4_209 rfl rfl ?_
    rw [yk]
    refine go_iconstN (n := 2) (q := 141) dX4_nextToken_140 rfl ?_
    refine go_icmp_neN (tgt := 211) (q := 144) dX4_nextToken_141 (by decide) rfl (by omega) (by omega) (fun h3 => ?_) (fun h3 => ?_)
    · skip
      exact r_nextToken_211 hO hk hk4 (hn h3).1 (hn h3).2 hv g
    · skip
      refine go_aloadn0 (q := 145) dX4_nextToken_144 rfl ?_
      refine go_aloadn0 (q := 146) dX4_nextToken_145 rfl ?_
      refine go_xg (q := 149) dX4_nextToken_146 fl_X4_194 rfl rfl ?_
      rw [ye]
      refine go_ix1 (q := 152) dX4_nextToken_149 lk_X4_200 (by decide) (by decide) (Nat.le_of_ble_eq_true rfl) rfl (r_byteAt (by omega) (by omega) ?_)
      rw [xB, yL]
      refine go_is1_ (q := 155) dX4_nextToken_152 lk_X4_206 (by decide) (by decide) (Nat.le_of_ble_eq_true rfl) rfl (r_isDigit ?_)
      refine go_ifeqB (tgt := 211) (q := 158) dX4_nextToken_155 (by decide) rfl (fun h4 => ?_) (fun h4 => ?_)
      · skip
        have h5 := h2 h3
        have ne : ¬ (e < X 3 4 1 ∧ cl 2 (X 3 1 e) = true) := fun z => h4 ((bt_dig hB).mpr z)
        rw [sk_n ne, nm_n ne] at h5
        exact r_nextToken_211 hO hk hk4 (by rw [h5.1, if_neg (by omega)]) h5.2 hv g
      · skip
        have hd := (bt_dig hB).mp h4
        have hd2 := cl2_b hd.2
        have h5 := h2 h3
        rw [sk_y hd.1 hd.2, nm_y hd.1 hd.2] at h5
        refine go_aloadn0 (q := 159) dX4_nextToken_158 rfl ?_
        refine go_aloadn0 (q := 160) dX4_nextToken_159 rfl ?_
        refine go_xg (q := 163) dX4_nextToken_160 fl_X4_212 rfl rfl ?_
        rw [yv]
        refine go_sipushN (v := 9999) (q := 166) dX4_nextToken_163 (by decide) rfl ?_
        refine go_icmp_leN (tgt := 176) (q := 169) dX4_nextToken_166 (by decide) rfl (by omega) (by omega) (fun h6 => ?_) (fun h6 => ?_)
        · skip
          refine go_bipushN (v := 10) (q := 178) dX4_nextToken_176 (by decide) rfl ?_
          refine go_aloadn0 (q := 179) dX4_nextToken_178 rfl ?_
          refine go_xg (q := 182) dX4_nextToken_179 fl_X4_212 rfl rfl ?_
          rw [yv]
          refine go_imulN (q := 183) dX4_nextToken_182 rfl ?_
          refine go_aloadn0 (q := 184) dX4_nextToken_183 rfl ?_
          refine go_aloadn0 (q := 185) dX4_nextToken_184 rfl ?_
          refine go_xg (q := 188) dX4_nextToken_185 fl_X4_194 rfl rfl ?_
          rw [ye]
          refine go_ix1 (q := 191) dX4_nextToken_188 lk_X4_200 (by decide) (by decide) (Nat.le_of_ble_eq_true rfl) rfl (r_byteAt (by omega) (by omega) ?_)
          rw [xB, yL]
          rw [bt_y hd.1]
          refine go_iaddN (q := 192) dX4_nextToken_191 rfl ?_
          refine go_bipushN (v := 48) (q := 194) dX4_nextToken_192 (by decide) rfl ?_
          refine go_isubN (q := 195) dX4_nextToken_194 (by omega) rfl ?_
          refine go_xpf (f := 5) (q := 198) dX4_nextToken_195 fp_X4_212 (by omega) rfl ?_
          have g2 := g.v (10 * v + X 3 1 e - 48)
          generalize u3 X1 3 4 5 (10 * v + X 3 1 e - 48) = X2 at g2 ⊢
          have ye2 : X2 3 4 4 = e := g2.2.2.2.2.2.2.2.2.1
          refine go_aloadn0 (q := 199) dX4_nextToken_198 rfl ?_
          refine go_dup (q := 200) dX4_nextToken_199 rfl rfl ?_
          refine go_xg (q := 203) dX4_nextToken_200 fl_X4_194 rfl rfl ?_
          rw [ye2]
          refine go_iconstN (n := 1) (q := 204) dX4_nextToken_203 rfl ?_
          refine go_iaddN (q := 205) dX4_nextToken_204 rfl ?_
          refine go_xpf (f := 4) (q := 208) dX4_nextToken_205 fp_X4_194 (by omega) rfl ?_
          refine go_goto (tgt := 136) dX4_nextToken_208 (by decide) ?_
          exact ih (e + 1) _ _ (by omega) (by omega) (by omega) (g2.e (e + 1)) (fun _ => ⟨h5.1, by rw [h5.2]; congr 1; omega⟩) (fun z => absurd h3 z)
        · skip
          refine go_aloadn0 (q := 170) dX4_nextToken_169 rfl ?_
          refine go_xg (q := 173) dX4_nextToken_170 fl_X4_212 rfl rfl ?_
          rw [yv]
          refine go_goto (tgt := 195) dX4_nextToken_173 (by decide) ?_
          refine go_xpf (f := 5) (q := 198) dX4_nextToken_195 fp_X4_212 (by omega) rfl ?_
          have g2 := g.v v
          generalize u3 X1 3 4 5 v = X2 at g2 ⊢
          have ye2 : X2 3 4 4 = e := g2.2.2.2.2.2.2.2.2.1
          refine go_aloadn0 (q := 199) dX4_nextToken_198 rfl ?_
          refine go_dup (q := 200) dX4_nextToken_199 rfl rfl ?_
          refine go_xg (q := 203) dX4_nextToken_200 fl_X4_194 rfl rfl ?_
          rw [ye2]
          refine go_iconstN (n := 1) (q := 204) dX4_nextToken_203 rfl ?_
          refine go_iaddN (q := 205) dX4_nextToken_204 rfl ?_
          refine go_xpf (f := 4) (q := 208) dX4_nextToken_205 fp_X4_194 (by omega) rfl ?_
          refine go_goto (tgt := 136) dX4_nextToken_208 (by decide) ?_
          exact ih (e + 1) _ _ (by omega) (by omega) (by omega) (g2.e (e + 1)) (fun _ => ⟨h5.1, by rw [h5.2]; congr 1; omega⟩) (fun z => absurd h3 z)

set_option maxHeartbeats 4000000 in
set_option maxRecDepth 100000 in
theorem r_nextToken_101 {S : St} {N : Nat → Nat → Int64} {X : St} {Y : Nat → Int64} {Q : Option Value → AH → Prop} (hL : X 3 4 1 ≤ 120) (hB : ∀ i, i < X 3 4 1 → X 3 1 i ≤ 255) {s : Nat} (hO : ∀ X' v, Tq X X' (kd (X 3 1) (X 3 4 1) s) s (en (X 3 1) (X 3 4 1) s) v → am (X 3 1) (X 3 4 1) s = min 10000 v → v ≤ 99999 → Q none (hp S N X' Y)) {k : Nat} (hk : k = kd (X 3 1) (X 3 4 1) s) (hk4 : k ≤ 4) : ∀ (fu : Nat) (e : Nat) (X1 : St), X 3 4 1 - e < fu → (e ≤ X 3 4 1) → (Tq X X1 k s e 0) → (k = 1 → en (X 3 1) (X 3 4 1) s = sk (X 3 1) (X 3 4 1) 1 e ∧ am (X 3 1) (X 3 4 1) s = 0) → (k = 2 → en (X 3 1) (X 3 4 1) s = sk (X 3 1) (X 3 4 1) 2 e ∧ am (X 3 1) (X 3 4 1) s = nm (X 3 1) (X 3 4 1) e 0) → (k ≠ 1 → k ≠ 2 → en (X 3 1) (X 3 4 1) s = (if 2 < k then e + 1 else e) ∧ am (X 3 1) (X 3 4 1) s = 0) → Go 2 RX4 cX4_nextToken 2 none 101 [some (.ref 69), none] [] (hp S N X1 Y) Q := by
  intro fu
  induction fu with
  | zero => intro e X1 hfu; exact absurd hfu (Nat.not_lt_zero _)
  | succ fu ih =>
    intro e X1 hfu he g h1 h2 hn
    obtain ⟨x0, x1, x2, xj, y0, yL, yk, ys, ye, yv⟩ := id g
    have xB : X1 3 1 = X 3 1 := xj 1 (by decide)
    refine go_aloadn0 (q := 102) dX4_nextToken_101 rfl ?_
    refine go_xg (q := 105) dX4_nextToken_102 fl_X4_209 rfl rfl ?_
    rw [yk]
    refine go_iconstN (n := 1) (q := 106) dX4_nextToken_105 rfl ?_
    refine go_icmp_neN (tgt := 136) (q := 109) dX4_nextToken_106 (by decide) rfl (by omega) (by omega) (fun h3 => ?_) (fun h3 => ?_)
    · skip
      exact r_nextToken_136 hL hB hO hk hk4 (X 3 4 1 - e + 1) e 0 X1 (by omega) he (by omega) g h2 (fun z => hn h3 z)
    · skip
      refine go_aloadn0 (q := 110) dX4_nextToken_109 rfl ?_
      refine go_aloadn0 (q := 111) dX4_nextToken_110 rfl ?_
      refine go_xg (q := 114) dX4_nextToken_111 fl_X4_194 rfl rfl ?_
      rw [ye]
      refine go_ix1 (q := 117) dX4_nextToken_114 lk_X4_200 (by decide) (by decide) (Nat.le_of_ble_eq_true rfl) rfl (r_byteAt (by omega) (by omega) ?_)
      rw [xB, yL]
      refine go_is1_ (q := 120) dX4_nextToken_117 lk_X4_203 (by decide) (by decide) (Nat.le_of_ble_eq_true rfl) rfl (r_isLetter ?_)
      refine go_ifeqB (tgt := 136) (q := 123) dX4_nextToken_120 (by decide) rfl (fun h4 => ?_) (fun h4 => ?_)
      · skip
        have h5 := h1 h3
        rw [sk_n (fun z => h4 ((bt_let hB).mpr z))] at h5
        exact r_nextToken_136 hL hB hO hk hk4 (X 3 4 1 - e + 1) e 0 X1 (by omega) he (by omega) g (fun z => by omega) (fun z => ⟨by rw [h5.1, if_neg (by omega)], h5.2⟩)
      · skip
        have hd := (bt_let hB).mp h4
        have h5 := h1 h3
        rw [sk_y hd.1 hd.2] at h5
        refine go_aloadn0 (q := 124) dX4_nextToken_123 rfl ?_
        refine go_dup (q := 125) dX4_nextToken_124 rfl rfl ?_
        refine go_xg (q := 128) dX4_nextToken_125 fl_X4_194 rfl rfl ?_
        rw [ye]
        refine go_iconstN (n := 1) (q := 129) dX4_nextToken_128 rfl ?_
        refine go_iaddN (q := 130) dX4_nextToken_129 rfl ?_
        refine go_xpf (f := 4) (q := 133) dX4_nextToken_130 fp_X4_194 (by omega) rfl ?_
        refine go_goto (tgt := 101) dX4_nextToken_133 (by decide) ?_
        exact ih (e + 1) _ (by omega) (by omega) (g.e (e + 1)) (fun _ => h5) (fun z => by omega) (fun z => absurd h3 z)

set_option maxHeartbeats 4000000 in
set_option maxRecDepth 100000 in
theorem r_nextToken_93 {S : St} {N : Nat → Nat → Int64} {X : St} {Y : Nat → Int64} {Q : Option Value → AH → Prop} (hL : X 3 4 1 ≤ 120) (hB : ∀ i, i < X 3 4 1 → X 3 1 i ≤ 255) {s : Nat} (hO : ∀ X' v, Tq X X' (kd (X 3 1) (X 3 4 1) s) s (en (X 3 1) (X 3 4 1) s) v → am (X 3 1) (X 3 4 1) s = min 10000 v → v ≤ 99999 → Q none (hp S N X' Y)) {k v : Nat} {X1 : St} {c : Int32} (hs : s ≤ X 3 4 1) (hk : k = kd (X 3 1) (X 3 4 1) s) (k0 : Nat) (g0 : Tq X X1 k0 s s v) : Go 2 RX4 cX4_nextToken 2 none 93 [some (.ref 69), some (.int c)] [.int (nI k), .ref 69] (hp S N X1 Y) Q := by
  obtain ⟨n1, n2, n3, n4⟩ := nt_k (B := X 3 1) hs
  have g := (g0.k k).v 0
  refine go_xpf (f := 2) (q := 96) dX4_nextToken_93 fp_X4_209 (by omega) rfl ?_
  refine go_aloadn0 (q := 97) dX4_nextToken_96 rfl ?_
  refine go_iconstN (n := 0) (q := 98) dX4_nextToken_97 rfl ?_
  refine go_xpf (f := 5) (q := 101) dX4_nextToken_98 fp_X4_212 (by omega) rfl ?_
  rw [← hk] at n1 n2 n3 n4
  exact go_lz (r_nextToken_101 hL hB hO hk n4 (X 3 4 1 - s + 1) s _ (by omega) hs g n1 n2 n3)

set_option maxHeartbeats 4000000 in
set_option maxRecDepth 100000 in
theorem r_nextToken_34 {S : St} {N : Nat → Nat → Int64} {X : St} {Y : Nat → Int64} {Q : Option Value → AH → Prop} (hL : X 3 4 1 ≤ 120) (hB : ∀ i, i < X 3 4 1 → X 3 1 i ≤ 255) {s : Nat} (hO : ∀ X' v, Tq X X' (kd (X 3 1) (X 3 4 1) s) s (en (X 3 1) (X 3 4 1) s) v → am (X 3 1) (X 3 4 1) s = min 10000 v → v ≤ 99999 → Q none (hp S N X' Y)) {k0 e0 v : Nat} {X1 : St} (hs : s ≤ X 3 4 1) (g1 : Tq X X1 k0 s e0 v) : Go 2 RX4 cX4_nextToken 2 none 34 [some (.ref 69), none] [] (hp S N X1 Y) Q := by
  have ys1 : X1 3 4 3 = s := g1.2.2.2.2.2.2.2.1
  refine go_aloadn0 (q := 35) dX4_nextToken_34 rfl ?_
  refine go_aloadn0 (q := 36) dX4_nextToken_35 rfl ?_
  refine go_xg (q := 39) dX4_nextToken_36 fl_X4_197 rfl rfl ?_
  rw [ys1]
  refine go_xpf (f := 4) (q := 42) dX4_nextToken_39 fp_X4_194 (by omega) rfl ?_
  have g := g1.e s
  generalize u3 X1 3 4 4 s = X2 at g ⊢
  obtain ⟨x0, x1, x2, xj, y0, yL, yk, ys, ye, yv⟩ := id g
  have xB : X2 3 1 = X 3 1 := xj 1 (by decide)
  refine go_aloadn0 (q := 43) dX4_nextToken_42 rfl ?_
  refine go_aloadn0 (q := 44) dX4_nextToken_43 rfl ?_
  refine go_xg (q := 47) dX4_nextToken_44 fl_X4_197 rfl rfl ?_
  rw [ys]
  refine go_ix1 (q := 50) dX4_nextToken_47 lk_X4_200 (by decide) (by decide) (Nat.le_of_ble_eq_true rfl) rfl (r_byteAt (by omega) (by omega) ?_)
  rw [xB, yL]
  refine go_istoren1 (q := 51) dX4_nextToken_50 rfl (by decide) rfl ?_
  refine go_aloadn0 (q := 52) dX4_nextToken_51 rfl ?_
  refine go_iloadn1 (q := 53) dX4_nextToken_52 rfl ?_
  refine go_if_ge (tgt := 60) (q := 56) dX4_nextToken_53 (by decide) rfl (fun h1 => ?_) (fun h1 => ?_)
  · skip
    have hl := (bt_ge hB).mp h1
    refine go_iloadn1 (q := 61) dX4_nextToken_60 rfl ?_
    refine go_is1_ (q := 64) dX4_nextToken_61 lk_X4_203 (by decide) (by decide) (Nat.le_of_ble_eq_true rfl) rfl (r_isLetter ?_)
    refine go_ifeqB (tgt := 71) (q := 67) dX4_nextToken_64 (by decide) rfl (fun h2 => ?_) (fun h2 => ?_)
    · skip
      refine go_iloadn1 (q := 72) dX4_nextToken_71 rfl ?_
      refine go_is1_ (q := 75) dX4_nextToken_72 lk_X4_206 (by decide) (by decide) (Nat.le_of_ble_eq_true rfl) rfl (r_isDigit ?_)
      refine go_ifeqB (tgt := 82) (q := 78) dX4_nextToken_75 (by decide) rfl (fun h3 => ?_) (fun h3 => ?_)
      · skip
        refine go_iloadn1 (q := 83) dX4_nextToken_82 rfl ?_
        refine go_bipushN (v := 59) (q := 85) dX4_nextToken_83 (by decide) rfl ?_
        refine go_icmp_ne (tgt := 92) (q := 88) dX4_nextToken_85 (by decide) rfl (fun h4 => ?_) (fun h4 => ?_)
        · skip
          refine go_iconstN (n := 4) (q := 93) dX4_nextToken_92 rfl ?_
          exact r_nextToken_93 hL hB hO hs (show 4 = kd (X 3 1) (X 3 4 1) s by unfold kd; rw [if_neg (by omega), if_neg (fun z => h2 ((bt_let hB).mpr ⟨hl, z⟩)), if_neg (fun z => h3 ((bt_dig hB).mpr ⟨hl, z⟩)), if_neg (fun z => h4 ((bt_eq hB (by decide)).mpr ⟨hl, z⟩))]) k0 g
        · skip
          refine go_iconstN (n := 3) (q := 89) dX4_nextToken_88 rfl ?_
          refine go_goto (tgt := 93) dX4_nextToken_89 (by decide) ?_
          exact r_nextToken_93 hL hB hO hs (show 3 = kd (X 3 1) (X 3 4 1) s by unfold kd; rw [if_neg (by omega), if_neg (fun z => h2 ((bt_let hB).mpr ⟨hl, z⟩)), if_neg (fun z => h3 ((bt_dig hB).mpr ⟨hl, z⟩)), if_pos ((bt_eq hB (by decide)).mp h4).2]) k0 g
      · skip
        refine go_iconstN (n := 2) (q := 79) dX4_nextToken_78 rfl ?_
        refine go_goto (tgt := 93) dX4_nextToken_79 (by decide) ?_
        exact r_nextToken_93 hL hB hO hs (show 2 = kd (X 3 1) (X 3 4 1) s by unfold kd; rw [if_neg (by omega), if_neg (fun z => h2 ((bt_let hB).mpr ⟨hl, z⟩)), if_pos ((bt_dig hB).mp h3).2]) k0 g
    · skip
      refine go_iconstN (n := 1) (q := 68) dX4_nextToken_67 rfl ?_
      refine go_goto (tgt := 93) dX4_nextToken_68 (by decide) ?_
      exact r_nextToken_93 hL hB hO hs (show 1 = kd (X 3 1) (X 3 4 1) s by unfold kd; rw [if_neg (by omega), if_pos ((bt_let hB).mp h2).2]) k0 g
  · skip
    refine go_iconstN (n := 0) (q := 57) dX4_nextToken_56 rfl ?_
    refine go_goto (tgt := 93) dX4_nextToken_57 (by decide) ?_
    exact r_nextToken_93 hL hB hO hs (show 0 = kd (X 3 1) (X 3 4 1) s by unfold kd; rw [if_pos (by have : ¬ s < X 3 4 1 := fun z => h1 ((bt_ge hB).mpr z); omega)]) k0 g

set_option maxHeartbeats 4000000 in
set_option maxRecDepth 100000 in
theorem r_nextToken_8 {S : St} {N : Nat → Nat → Int64} {X : St} {Y : Nat → Int64} {Q : Option Value → AH → Prop} (hL : X 3 4 1 ≤ 120) (hB : ∀ i, i < X 3 4 1 → X 3 1 i ≤ 255) {e0 : Nat} (hO : ∀ X' v, Tq X X' (kd (X 3 1) (X 3 4 1) (sk (X 3 1) (X 3 4 1) 0 e0)) (sk (X 3 1) (X 3 4 1) 0 e0) (en (X 3 1) (X 3 4 1) (sk (X 3 1) (X 3 4 1) 0 e0)) v → am (X 3 1) (X 3 4 1) (sk (X 3 1) (X 3 4 1) 0 e0) = min 10000 v → v ≤ 99999 → Q none (hp S N X' Y)) : ∀ (fu : Nat) (s k0 v : Nat) (X1 : St), X 3 4 1 - s < fu → (s ≤ X 3 4 1) → (Tq X X1 k0 s e0 v) → (sk (X 3 1) (X 3 4 1) 0 s = sk (X 3 1) (X 3 4 1) 0 e0) → Go 2 RX4 cX4_nextToken 2 none 8 [some (.ref 69), none] [] (hp S N X1 Y) Q := by
  intro fu
  induction fu with
  | zero => intro s k0 v X1 hfu; exact absurd hfu (Nat.not_lt_zero _)
  | succ fu ih =>
    intro s k0 v X1 hfu hs g hk
    obtain ⟨x0, x1, x2, xj, y0, yL, yk, ys, ye, yv⟩ := id g
    have xB : X1 3 1 = X 3 1 := xj 1 (by decide)
    refine go_aloadn0 (q := 9) dX4_nextToken_8 rfl ?_
    refine go_aloadn0 (q := 10) dX4_nextToken_9 rfl ?_
    refine go_xg (q := 13) dX4_nextToken_10 fl_X4_197 rfl rfl ?_
    rw [ys]
    refine go_ix1 (q := 16) dX4_nextToken_13 lk_X4_200 (by decide) (by decide) (Nat.le_of_ble_eq_true rfl) rfl (r_byteAt (by omega) (by omega) ?_)
    rw [xB, yL]
    refine go_bipushN (v := 32) (q := 18) dX4_nextToken_16 (by decide) rfl ?_
    refine go_icmp_ne (tgt := 34) (q := 21) dX4_nextToken_18 (by decide) rfl (fun h1 => ?_) (fun h1 => ?_)
    · skip
      have e1 : sk (X 3 1) (X 3 4 1) 0 e0 = s := by rw [← hk]; exact sk_n (fun z => h1 ((bt_eq hB (by decide)).mpr ⟨z.1, cl0_b z.2⟩))
      rw [e1] at hO
      exact r_nextToken_34 hL hB hO hs g
    · skip
      have hd := (bt_eq hB (by decide)).mp h1
      refine go_aloadn0 (q := 22) dX4_nextToken_21 rfl ?_
      refine go_dup (q := 23) dX4_nextToken_22 rfl rfl ?_
      refine go_xg (q := 26) dX4_nextToken_23 fl_X4_197 rfl rfl ?_
      rw [ys]
      refine go_iconstN (n := 1) (q := 27) dX4_nextToken_26 rfl ?_
      refine go_iaddN (q := 28) dX4_nextToken_27 rfl ?_
      refine go_xpf (f := 3) (q := 31) dX4_nextToken_28 fp_X4_197 (by omega) rfl ?_
      refine go_goto (tgt := 8) dX4_nextToken_31 (by decide) ?_
      exact ih (s + 1) _ _ _ (by omega) (by omega) (g.s (s + 1)) (by rw [← sk_y hd.1 (cl0_m hd.2)]; exact hk)

set_option maxHeartbeats 4000000 in
set_option maxRecDepth 100000 in
theorem r_nextToken {S : St} {N : Nat → Nat → Int64} {X : St} {Y : Nat → Int64} {Q : Option Value → AH → Prop} {T : Mk} (hT : tpB T) (h0 : X 3 1 = T 0) (hL : X 3 4 1 = T 1 0) (h3 : X 3 4 4 = T 1 3) (he : T 1 3 ≤ T 1 0) (hO : ∀ X', Tx X X' (tkn T) (X 0) → Q none (hp S N X' Y)) : Cn 2 yX4_nextToken cX4_nextToken 2 none [.ref 69] (hp S N X Y) Q := by
  refine cn_of (own := RX4) (lo := [some (.ref 69), none]) 1 rfl (by decide +kernel) rfl (Nat.le_of_ble_eq_true rfl) ?_
  have hL2 := hT.1
  have hB2 := hT.2
  refine go_aloadn0 (q := 1) dX4_nextToken_0 rfl ?_
  refine go_aloadn0 (q := 2) dX4_nextToken_1 rfl ?_
  refine go_xg (q := 5) dX4_nextToken_2 fl_X4_194 rfl rfl ?_
  refine go_xpf (f := 3) (q := 8) dX4_nextToken_5 fp_X4_197 (by omega) rfl ?_
  refine r_nextToken_8 (e0 := X 3 4 4) (by rw [hL]; exact hL2) (by rw [h0, hL]; exact hB2) (fun X1 v g1 ha hv => hO X1 (g1.x h0 hL ?_ ha hv)) (X 3 4 1 - X 3 4 4 + 1) (X 3 4 4) _ _ _ (by omega) (by omega) (Tq.rf.s (X 3 4 4)) rfl
  rw [h0, hL, h3]
