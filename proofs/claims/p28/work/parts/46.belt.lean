/-! the class's answers against the law's rows -/
theorem mCup_at {x : Nat → Int → Int} {p : Int} (hp : 0 ≤ p ∧ p < 12) : mCup x p 0 = x 2 p ∧ mCup x p 1 = (if x 3 p = -1 then -4 else x 3 p) ∧ mCup x p 2 = jSum (fun i => tW (x 4 (2 * p + i))) (x 2 p).toNat ∧ mCup x p 3 = sTtf x p := by
  exact ⟨(if_neg (by omega)).trans rfl, (if_neg (by omega)).trans rfl, (if_neg (by omega)).trans rfl, (if_neg (by omega)).trans rfl⟩
theorem mCount_at (x : Nat → Int → Int) (v : Int → Int) : mCount x v 0 = x 9 0 ∧ mCount x v 1 = x 9 1 ∧ mCount x v 2 = jSum (x 2) 12 ∧ mCount x v 3 = jSum (fun i => if x 2 i = 2 then 1 else 0) 12 ∧ mCount x v 4 = jSum (x 5) 5 ∧ mCount x v 5 = sWa x ∧ mCount x v 6 = x 9 2 ∧ mCount x v 7 = x 9 3 ∧ mCount x v 8 = x 9 4 ∧ mCount x v 9 = x 9 5 ∧ mCount x v 10 = x 9 6 ∧ mCount x v 11 = x 7 0 + 20 ∧ mCount x v 12 = x 7 1 ∧ mCount x v 13 = x 7 2 := ⟨rfl, rfl, rfl, rfl, rfl, rfl, rfl, rfl, rfl, rfl, rfl, rfl, rfl, rfl⟩
theorem K_belt {x : Nat → Int → Int} {c : Int → Int} (hx : sOK x) (hg : sGr x) (h : kCup 1 x c) {p : Int} (hp : 0 ≤ p ∧ p < 12) : (if x 3 p = -1 then -4 else x 3 p) = (if 0 < x 2 p ∧ 0 < p then c (4 * p + 3) else -4) ∧ jSum (fun i => tW (x 4 (2 * p + i))) (x 2 p).toNat = (if 0 < x 2 p then c (4 * p + 1) / 10000 else 0) + (if 1 < x 2 p then c (4 * p + 2) / 10000 else 0) := by
  have r2 : ∀ i, 0 ≤ x 2 i ∧ x 2 i ≤ 2 := hx 2
  have r3 : ∀ i, -1 ≤ x 3 i ∧ x 3 i ≤ 4 := hx 3
  have r4 : ∀ i, 0 ≤ x 4 i ∧ x 4 i < 404000 := hx 4
  have r2p := r2 p
  have r3p := r3 p
  have r4a := r4 (2 * p)
  have r4b := r4 (2 * p + 1)
  obtain ⟨a1, a2, a3, a4⟩ := h p hp.1 hp.2
  have g := hg.2 p
  refine ⟨?_, ?_⟩
  · by_cases q : 0 < x 2 p ∧ 0 < p
    · have := a4 (by omega) (by omega)
      rw [if_pos q, if_neg (by omega)]
      omega
    · rw [if_neg q]
      by_cases w : p = 0
      · subst w
        rw [if_pos hg.1]
      · rw [if_pos (by omega)]
  · have e1 := (pk_parts r4a.1).1
    have e2 := (pk_parts r4b.1).1
    rcases (show x 2 p = 0 ∨ x 2 p = 1 ∨ x 2 p = 2 by omega) with q | q | q
    · rw [q]
      rfl
    · rw [q, if_pos (by omega), if_neg (by omega), a2 (by omega), e1]
      show 0 + tW (x 4 (2 * p + ((0 : Nat) : Int))) = _
      rw [show 2 * p + ((0 : Nat) : Int) = 2 * p by omega]
      omega
    · rw [q, if_pos (by omega), if_pos (by omega), a2 (by omega), a3 (by omega), e1, e2]
      show 0 + tW (x 4 (2 * p + ((0 : Nat) : Int))) + tW (x 4 (2 * p + ((1 : Nat) : Int))) = _
      rw [show 2 * p + ((0 : Nat) : Int) = 2 * p by omega]
      show 0 + tW (x 4 (2 * p)) + tW (x 4 (2 * p + 1)) = _
      omega
theorem kL_isBelt_X7_cup : jKv mL_isBelt 27 yX7_cup wsX7_cup rmX7_cup 2 := ⟨gL_isBelt_X7_cup, ⟨_, _, _, _, rfl, by decide⟩, by decide +kernel, rfl, rfl, by decide⟩
theorem kL_isBelt_X7_count : jKv mL_isBelt 37 yX7_count wsX7_count rmX7_count 1 := ⟨gL_isBelt_X7_count, ⟨_, _, _, _, rfl, by decide⟩, by decide +kernel, rfl, rfl, by decide⟩
theorem kL_isBelt_L_ticks : jKs mL_isBelt 33 yL_ticks wsL_ticks rmL_ticks 4 := ⟨gL_isBelt_L_ticks, ⟨_, _, _, _, rfl, by decide⟩, by decide +kernel, rfl, rfl, by decide⟩
set_option maxRecDepth 100000 in
set_option maxHeartbeats 4000000 in
theorem c_L_isBelt (E : jE) (ad qh : Nat → Nat → Nat) (S H : Nat → Nat → Int → Int) (P : Nat → Int → Int) (v : Int → Int) (ca na ua : Nat) (N : Int) (c b n u e : Int → Int) (hc0 : cOK S H P v) (hi : sInv (S 0) N) (hN : N ≤ 60) (hr : KRel 1 (S 0) c b n u e) : jMI E yL_isBelt wsL_isBelt rmL_isBelt [.ref (ad 7 0), .ref ca, .ref na, .ref ua] (jFl [wEye E ad qh S H P v, wA E ca 48 c, wA E na 16 n, wA E ua 36 u]) (1) (jFl [wEye E ad qh S H P v, wA E ca 48 c, wA E na 16 n, wA E ua 36 u]) := by
  refine jMI_of (cc := cL_isBelt) (maxL := 10) (ret := (some .boolean)) [(0, .ref (ad 7 0)), (1, .ref ca), (2, .ref na), (3, .ref ua)] (by decide) rfl rfl (Nat.le_of_ble_eq_true rfl) (fun C => ?_)
  show jG mL_isBelt E C (jQi E C (1) (jFl [wEye E ad qh S H P v, wA E ca 48 c, wA E na 16 n, wA E ua 36 u])) 0 0 0 [(0, .ref (ad 7 0)), (1, .ref ca), (2, .ref na), (3, .ref ua)] [] (jFl [wEye E ad qh S H P v, wA E ca 48 c, wA E na 16 n, wA E ua 36 u])
  have hx : sOK (S 0) := hc0.1 0
  obtain ⟨mk2, mk3⟩ : mCount (S 0) v 2 = jSum (S 0 2) 12 ∧ mCount (S 0) v 3 = jSum (fun i => if S 0 2 i = 2 then 1 else 0) 12 := ⟨rfl, rfl⟩
  have r2 : ∀ i, 0 ≤ S 0 2 i ∧ S 0 2 i ≤ 2 := hx 2
  have r3 : ∀ i, -1 ≤ S 0 3 i ∧ S 0 3 i ≤ 4 := hx 3
  have r4 : ∀ i, 0 ≤ S 0 4 i ∧ S 0 4 i < 404000 := hx 4
  refine j_iconst 1 dL_isBelt_0 rfl ?_
  refine j_istore 3 [_, _, _, _, _] dL_isBelt_1 rfl (by decide) rfl ?_
  refine j_iconst 4 dL_isBelt_3 rfl ?_
  refine j_istore 6 [_, _, _, _, _, _] dL_isBelt_4 rfl (by decide) rfl ?_
  refine j_aload_n 2 7 dL_isBelt_6 rfl rfl ?_
  refine j_bipush 9 dL_isBelt_7 rfl (by decide) ?_
  refine j_iconst 10 dL_isBelt_9 rfl ?_
  refine j_callViB (wcs := [_]) (cs := [_]) 0 0 [0] 13 [_, _, _, _] (c_X7_cup E _ _ _ _ _ _ _ _ (by exact hc0) (by omega) (by omega)) (jFl_1 _) (jFl_1 _) rfl kL_isBelt_X7_cup rfl rfl rfl rfl rfl rfl rfl (Nat.le_of_ble_eq_true rfl) (by decide) dL_isBelt_10 rfl ?_
  refine j_iconst 14 dL_isBelt_13 rfl ?_
  refine j_eqn 17 dL_isBelt_14 rfl (by exact if_pos (by omega)) ⟨41, by decide⟩ ?_
  refine j_aload_n 2 18 dL_isBelt_17 rfl rfl ?_
  refine j_iconst 19 dL_isBelt_18 rfl ?_
  refine j_iconst 20 dL_isBelt_19 rfl ?_
  refine j_callViB (wcs := [_]) (cs := [_]) 0 0 [0] 23 [_, _, _, _] (c_X7_cup E _ _ _ _ _ _ _ _ (by exact hc0) (by omega) (by omega)) (jFl_1 _) (jFl_1 _) rfl kL_isBelt_X7_cup rfl rfl rfl rfl rfl rfl rfl (Nat.le_of_ble_eq_true rfl) (by decide) dL_isBelt_20 rfl ?_
  refine j_iconst 24 dL_isBelt_23 rfl ?_
  refine j_eqn 27 dL_isBelt_24 rfl (by exact if_pos (by omega)) ⟨41, by decide⟩ ?_
  refine j_aload_n 2 28 dL_isBelt_27 rfl rfl ?_
  refine j_iconst 29 dL_isBelt_28 rfl ?_
  refine j_iconst 30 dL_isBelt_29 rfl ?_
  refine j_callViB (wcs := [_]) (cs := [_]) 0 0 [0] 33 [_, _, _, _] (c_X7_cup E _ _ _ _ _ _ _ _ (by exact hc0) (by omega) (by omega)) (jFl_1 _) (jFl_1 _) rfl kL_isBelt_X7_cup rfl rfl rfl rfl rfl rfl rfl (Nat.le_of_ble_eq_true rfl) (by decide) dL_isBelt_30 rfl ?_
  refine j_iconst 34 dL_isBelt_33 rfl ?_
  refine j_eqn 37 dL_isBelt_34 rfl (by exact if_pos (by omega)) ⟨41, by decide⟩ ?_
  refine j_iconst 38 dL_isBelt_37 rfl ?_
  refine j_goto 42 dL_isBelt_38 (by decide) ?_
  refine j_istore 44 [_, _, _, _, _, _, _] dL_isBelt_42 rfl (by decide) rfl ?_
  refine j_iconst 45 dL_isBelt_44 rfl ?_
  refine j_istore 47 [_, _, _, _, _, _, _, _] dL_isBelt_45 rfl (by decide) rfl ?_
  have key47 : ∀ (fu i : Nat), 12 < i + fu → i ≤ 12 → jG mL_isBelt E C (jQi E C (1) (jFl [wEye E ad qh S H P v, wA E ca 48 c, wA E na 16 n, wA E ua 36 u])) 0 0 47 [(0, .ref (ad 7 0)), (1, .ref ca), (2, .ref na), (3, .ref ua), (4, .int (jI (jSum (S 0 2) i))), (5, .int (jI (jSum (fun i => if S 0 2 i = 2 then 1 else 0) i))), (6, .int (jI 1)), (7, .int (jI (i : Int)))] [] (jFl [wEye E ad qh S H P v, wA E ca 48 c, wA E na 16 n, wA E ua 36 u]) := by
    intro fu
    induction fu with
    | zero => intro i h1 h2; exact absurd h1 (by omega)
    | succ fu ih =>
      intro i h1 h2
      refine j_iload 7 49 dL_isBelt_47 rfl rfl ?_
      refine j_bipush 51 dL_isBelt_49 rfl (by decide) ?_
      refine j_icmp_ge 234 54 dL_isBelt_51 rfl (by decide) (by omega) (by omega) (fun h_51 => ?_) (fun h_51 => ?_)
      · skip
        obtain rfl : i = 12 := by omega
        refine j_iload 6 236 dL_isBelt_234 rfl rfl ?_
        refine j_if_eq 263 239 dL_isBelt_236 rfl (by decide) (by decide) (fun h => absurd h (by decide)) (fun _ => ?_)
        refine j_aload_n 0 240 dL_isBelt_239 rfl rfl ?_
        refine j_iconst 241 dL_isBelt_240 rfl ?_
        refine j_callViB (wcs := [_]) (cs := [_]) 0 0 [0] 244 [_, _, _, _] (c_X7_count E _ _ _ _ _ _ _ (by exact hc0) (by omega)) (jFl_1 _) (jFl_1 _) rfl kL_isBelt_X7_count rfl rfl rfl rfl rfl rfl rfl (Nat.le_of_ble_eq_true rfl) (by decide) dL_isBelt_241 rfl ?_
        refine j_iload 4 246 dL_isBelt_244 rfl rfl ?_
        refine j_eqn 249 dL_isBelt_246 rfl (by exact mk2) ⟨263, by decide⟩ ?_
        refine j_aload_n 0 250 dL_isBelt_249 rfl rfl ?_
        refine j_iconst 251 dL_isBelt_250 rfl ?_
        refine j_callViB (wcs := [_]) (cs := [_]) 0 0 [0] 254 [_, _, _, _] (c_X7_count E _ _ _ _ _ _ _ (by exact hc0) (by omega)) (jFl_1 _) (jFl_1 _) rfl kL_isBelt_X7_count rfl rfl rfl rfl rfl rfl rfl (Nat.le_of_ble_eq_true rfl) (by decide) dL_isBelt_251 rfl ?_
        refine j_iload 5 256 dL_isBelt_254 rfl rfl ?_
        refine j_eqn 259 dL_isBelt_256 rfl (by exact mk3) ⟨263, by decide⟩ ?_
        refine j_iconst 260 dL_isBelt_259 rfl ?_
        refine j_goto 264 dL_isBelt_260 (by decide) ?_
        exact j_zret dL_isBelt_264 rfl (by rfl) (by decide) (by rfl)
      · skip
        have hp : 0 ≤ (i : Int) ∧ (i : Int) < 12 := by omega
        obtain ⟨mc1, mc2, mc3, mc4⟩ := mCup_at (x := S 0) hp
        obtain ⟨kb1, kb2⟩ := K_belt hx hi.2.1 hr.1 hp
        obtain ⟨d1, d2, d3, -⟩ := hr.1 i hp.1 hp.2
        have r2i := r2 i
        have pa := pk_rng (t := S 0 4 (2 * (i : Int))) (by have := r4 (2 * (i : Int)); omega)
        have pb := pk_rng (t := S 0 4 (2 * (i : Int) + 1)) (by have := r4 (2 * (i : Int) + 1); omega)
        refine j_iload 6 56 dL_isBelt_54 rfl rfl ?_
        refine j_if_eq 234 59 dL_isBelt_56 rfl (by decide) (by decide) (fun h => absurd h (by decide)) (fun _ => ?_)
        refine j_aload_n 1 60 dL_isBelt_59 rfl rfl ?_
        refine j_iconst 61 dL_isBelt_60 rfl ?_
        refine j_iload 7 63 dL_isBelt_61 rfl rfl ?_
        refine j_imul 64 dL_isBelt_63 rfl ?_
        refine j_ialdB 1 0 65 dL_isBelt_64 rfl rfl rfl (by decide) (by omega) ?_
        rw [d1]
        refine j_istore 67 [_, _, _, _, _, _, _, _, _] dL_isBelt_65 rfl (by decide) rfl ?_
        rcases (show S 0 2 i = 0 ∨ (S 0 2 i = 1 ∧ i = 0) ∨ (S 0 2 i = 1 ∧ 0 < i) ∨ (S 0 2 i = 2 ∧ i = 0) ∨ (S 0 2 i = 2 ∧ 0 < i) by omega) with hm | hm | hm | hm | hm
        · skip
          refine j_iload 5 69 dL_isBelt_67 rfl rfl ?_
          refine j_iload 0 71 dL_isBelt_69 rfl rfl ?_
          refine j_iadd 72 dL_isBelt_71 rfl ?_
          refine j_istore 74 [_, _, _, _, _, _, _, _, _] dL_isBelt_72 rfl (by decide) rfl ?_
          refine j_iload 6 76 dL_isBelt_74 rfl rfl ?_
          refine j_iload 1 78 dL_isBelt_76 rfl rfl ?_
          refine j_iconst 79 dL_isBelt_78 rfl ?_
          refine j_icmp_ne 86 82 dL_isBelt_79 rfl (by decide) (by omega) (by omega) (fun h_79 => ?_) (fun h => absurd h (by omega))
          refine j_iconst 87 dL_isBelt_86 rfl ?_
          refine j_iadd 88 dL_isBelt_87 rfl ?_
          refine j_istore 90 [_, _, _, _, _, _, _, _, _] dL_isBelt_88 rfl (by decide) rfl ?_
          refine j_iload 2 92 dL_isBelt_90 rfl rfl ?_
          refine j_if_le 110 95 dL_isBelt_92 rfl (by decide) (by omega) (fun h_92 => ?_) (fun h => absurd h (by omega))
          refine j_iconst 111 dL_isBelt_110 rfl ?_
          refine j_iload 2 113 dL_isBelt_111 rfl rfl ?_
          refine j_iconst 114 dL_isBelt_113 rfl ?_
          refine j_icmp_le 132 117 dL_isBelt_114 rfl (by decide) (by omega) (by omega) (fun h_114 => ?_) (fun h => absurd h (by omega))
          refine j_iconst 133 dL_isBelt_132 rfl ?_
          refine j_iadd 134 dL_isBelt_133 rfl ?_
          refine j_istore 136 [_, _, _, _, _, _, _, _, _, _] dL_isBelt_134 rfl (by decide) rfl ?_
          refine j_aload_n 4 137 dL_isBelt_136 rfl rfl ?_
          refine j_iload 9 139 dL_isBelt_137 rfl rfl ?_
          refine j_iconst 140 dL_isBelt_139 rfl ?_
          refine j_callViB (wcs := [_]) (cs := [_]) 0 0 [0] 143 [_, _, _, _] (c_X7_cup E _ _ _ _ _ _ _ _ (by exact hc0) (by omega) (by omega)) (jFl_1 _) (jFl_1 _) rfl kL_isBelt_X7_cup rfl rfl rfl rfl rfl rfl rfl (Nat.le_of_ble_eq_true rfl) (by decide) dL_isBelt_140 rfl ?_
          refine j_iload 3 145 dL_isBelt_143 rfl rfl ?_
          refine j_eqn 148 dL_isBelt_145 rfl (by exact mc1) ⟨225, by decide⟩ ?_
          refine j_aload_n 4 149 dL_isBelt_148 rfl rfl ?_
          refine j_iload 9 151 dL_isBelt_149 rfl rfl ?_
          refine j_iconst 152 dL_isBelt_151 rfl ?_
          refine j_callViB (wcs := [_]) (cs := [_]) 0 0 [0] 155 [_, _, _, _] (c_X7_cup E _ _ _ _ _ _ _ _ (by exact hc0) (by omega) (by omega)) (jFl_1 _) (jFl_1 _) rfl kL_isBelt_X7_cup rfl rfl rfl rfl rfl rfl rfl (Nat.le_of_ble_eq_true rfl) (by decide) dL_isBelt_152 rfl ?_
          refine j_iload 3 157 dL_isBelt_155 rfl rfl ?_
          refine j_if_le 176 160 dL_isBelt_157 rfl (by decide) (by omega) (fun h_157 => ?_) (fun h => absurd h (by omega))
          refine j_bipush 178 dL_isBelt_176 rfl (by decide) ?_
          refine j_eqn 181 dL_isBelt_178 rfl (by rw [mc2, kb1]; exact if_neg (by omega)) ⟨225, by decide⟩ ?_
          refine j_aload_n 4 182 dL_isBelt_181 rfl rfl ?_
          refine j_iload 9 184 dL_isBelt_182 rfl rfl ?_
          refine j_iconst 185 dL_isBelt_184 rfl ?_
          refine j_callViB (wcs := [_]) (cs := [_]) 0 0 [0] 188 [_, _, _, _] (c_X7_cup E _ _ _ _ _ _ _ _ (by exact hc0) (by omega) (by omega)) (jFl_1 _) (jFl_1 _) rfl kL_isBelt_X7_cup rfl rfl rfl rfl rfl rfl rfl (Nat.le_of_ble_eq_true rfl) (by decide) dL_isBelt_185 rfl ?_
          refine j_iload 0 190 dL_isBelt_188 rfl rfl ?_
          refine j_eqn 193 dL_isBelt_190 rfl (by rw [mc3, kb2, if_neg (by omega), if_neg (by omega)]) ⟨225, by decide⟩ ?_
          refine j_aload_n 4 194 dL_isBelt_193 rfl rfl ?_
          refine j_iload 9 196 dL_isBelt_194 rfl rfl ?_
          refine j_iconst 197 dL_isBelt_196 rfl ?_
          refine j_callViB (wcs := [_]) (cs := [_]) 0 0 [0] 200 [_, _, _, _] (c_X7_cup E _ _ _ _ _ _ _ _ (by exact hc0) (by omega) (by omega)) (jFl_1 _) (jFl_1 _) rfl kL_isBelt_X7_cup rfl rfl rfl rfl rfl rfl rfl (Nat.le_of_ble_eq_true rfl) (by decide) dL_isBelt_197 rfl ?_
          refine j_iload 3 202 dL_isBelt_200 rfl rfl ?_
          refine j_if_ne 210 205 dL_isBelt_202 rfl (by decide) (by omega) (fun h => absurd h (by omega)) (fun h_202 => ?_)
          refine j_bipush 207 dL_isBelt_205 rfl (by decide) ?_
          refine j_goto 218 dL_isBelt_207 (by decide) ?_
          refine j_eqn 221 dL_isBelt_218 rfl (by rw [mc4]; exact if_pos (by omega)) ⟨225, by decide⟩ ?_
          refine j_iconst 222 dL_isBelt_221 rfl ?_
          refine j_goto 226 dL_isBelt_222 (by decide) ?_
          refine j_istore 228 [_, _, _, _, _, _, _, _, _, _] dL_isBelt_226 rfl (by decide) rfl ?_
          refine j_iinc 9 231 [_, _, _, _, _, _, _, _, _, _] dL_isBelt_228 rfl rfl (by decide) rfl ?_
          refine j_goto 47 dL_isBelt_231 (by decide) ?_
          refine j_perm [6, 7, 8, 9, 4, 3, 1, 0] rfl ?_
          have g := ih (i + 1) (by omega) (by omega)
          rw [show jSum (fun i => if S 0 2 i = 2 then 1 else 0) (i + 1) = jSum (fun i => if S 0 2 i = 2 then 1 else 0) i + (if S 0 2 i = 2 then 1 else 0) from rfl] at g
          first
            | (rw [if_pos (by omega)] at g; exact g)
            | (rw [if_neg (by omega)] at g; exact g)
        · skip
          have d2i := d2 (by omega)
          refine j_iload 5 69 dL_isBelt_67 rfl rfl ?_
          refine j_iload 0 71 dL_isBelt_69 rfl rfl ?_
          refine j_iadd 72 dL_isBelt_71 rfl ?_
          refine j_istore 74 [_, _, _, _, _, _, _, _, _] dL_isBelt_72 rfl (by decide) rfl ?_
          refine j_iload 6 76 dL_isBelt_74 rfl rfl ?_
          refine j_iload 1 78 dL_isBelt_76 rfl rfl ?_
          refine j_iconst 79 dL_isBelt_78 rfl ?_
          refine j_icmp_ne 86 82 dL_isBelt_79 rfl (by decide) (by omega) (by omega) (fun h_79 => ?_) (fun h => absurd h (by omega))
          refine j_iconst 87 dL_isBelt_86 rfl ?_
          refine j_iadd 88 dL_isBelt_87 rfl ?_
          refine j_istore 90 [_, _, _, _, _, _, _, _, _] dL_isBelt_88 rfl (by decide) rfl ?_
          refine j_iload 2 92 dL_isBelt_90 rfl rfl ?_
          refine j_if_le 110 95 dL_isBelt_92 rfl (by decide) (by omega) (fun h => absurd h (by omega)) (fun h_92 => ?_)
          refine j_aload_n 4 96 dL_isBelt_95 rfl rfl ?_
          refine j_iconst 97 dL_isBelt_96 rfl ?_
          refine j_iload 8 99 dL_isBelt_97 rfl rfl ?_
          refine j_imul 100 dL_isBelt_99 rfl ?_
          refine j_iconst 101 dL_isBelt_100 rfl ?_
          refine j_iadd 102 dL_isBelt_101 rfl ?_
          refine j_ialdB 1 0 103 dL_isBelt_102 rfl rfl rfl (by decide) (by omega) ?_
          refine j_sipush 106 dL_isBelt_103 rfl (by decide) ?_
          refine j_idiv 107 dL_isBelt_106 rfl (by omega) (by decide) ?_
          refine j_goto 111 dL_isBelt_107 (by decide) ?_
          refine j_iload 2 113 dL_isBelt_111 rfl rfl ?_
          refine j_iconst 114 dL_isBelt_113 rfl ?_
          refine j_icmp_le 132 117 dL_isBelt_114 rfl (by decide) (by omega) (by omega) (fun h_114 => ?_) (fun h => absurd h (by omega))
          refine j_iconst 133 dL_isBelt_132 rfl ?_
          refine j_iadd 134 dL_isBelt_133 rfl ?_
          refine j_istore 136 [_, _, _, _, _, _, _, _, _, _] dL_isBelt_134 rfl (by decide) rfl ?_
          refine j_aload_n 4 137 dL_isBelt_136 rfl rfl ?_
          refine j_iload 9 139 dL_isBelt_137 rfl rfl ?_
          refine j_iconst 140 dL_isBelt_139 rfl ?_
          refine j_callViB (wcs := [_]) (cs := [_]) 0 0 [0] 143 [_, _, _, _] (c_X7_cup E _ _ _ _ _ _ _ _ (by exact hc0) (by omega) (by omega)) (jFl_1 _) (jFl_1 _) rfl kL_isBelt_X7_cup rfl rfl rfl rfl rfl rfl rfl (Nat.le_of_ble_eq_true rfl) (by decide) dL_isBelt_140 rfl ?_
          refine j_iload 3 145 dL_isBelt_143 rfl rfl ?_
          refine j_eqn 148 dL_isBelt_145 rfl (by exact mc1) ⟨225, by decide⟩ ?_
          refine j_aload_n 4 149 dL_isBelt_148 rfl rfl ?_
          refine j_iload 9 151 dL_isBelt_149 rfl rfl ?_
          refine j_iconst 152 dL_isBelt_151 rfl ?_
          refine j_callViB (wcs := [_]) (cs := [_]) 0 0 [0] 155 [_, _, _, _] (c_X7_cup E _ _ _ _ _ _ _ _ (by exact hc0) (by omega) (by omega)) (jFl_1 _) (jFl_1 _) rfl kL_isBelt_X7_cup rfl rfl rfl rfl rfl rfl rfl (Nat.le_of_ble_eq_true rfl) (by decide) dL_isBelt_152 rfl ?_
          refine j_iload 3 157 dL_isBelt_155 rfl rfl ?_
          refine j_if_le 176 160 dL_isBelt_157 rfl (by decide) (by omega) (fun h => absurd h (by omega)) (fun h_157 => ?_)
          refine j_iload 9 162 dL_isBelt_160 rfl rfl ?_
          refine j_if_le 176 165 dL_isBelt_162 rfl (by decide) (by omega) (fun h_162 => ?_) (fun h => absurd h (by omega))
          refine j_bipush 178 dL_isBelt_176 rfl (by decide) ?_
          refine j_eqn 181 dL_isBelt_178 rfl (by rw [mc2, kb1]; exact if_neg (by omega)) ⟨225, by decide⟩ ?_
          refine j_aload_n 4 182 dL_isBelt_181 rfl rfl ?_
          refine j_iload 9 184 dL_isBelt_182 rfl rfl ?_
          refine j_iconst 185 dL_isBelt_184 rfl ?_
          refine j_callViB (wcs := [_]) (cs := [_]) 0 0 [0] 188 [_, _, _, _] (c_X7_cup E _ _ _ _ _ _ _ _ (by exact hc0) (by omega) (by omega)) (jFl_1 _) (jFl_1 _) rfl kL_isBelt_X7_cup rfl rfl rfl rfl rfl rfl rfl (Nat.le_of_ble_eq_true rfl) (by decide) dL_isBelt_185 rfl ?_
          refine j_iload 0 190 dL_isBelt_188 rfl rfl ?_
          refine j_eqn 193 dL_isBelt_190 rfl (by rw [mc3, kb2, if_pos (by omega), if_neg (by omega)]) ⟨225, by decide⟩ ?_
          refine j_aload_n 4 194 dL_isBelt_193 rfl rfl ?_
          refine j_iload 9 196 dL_isBelt_194 rfl rfl ?_
          refine j_iconst 197 dL_isBelt_196 rfl ?_
          refine j_callViB (wcs := [_]) (cs := [_]) 0 0 [0] 200 [_, _, _, _] (c_X7_cup E _ _ _ _ _ _ _ _ (by exact hc0) (by omega) (by omega)) (jFl_1 _) (jFl_1 _) rfl kL_isBelt_X7_cup rfl rfl rfl rfl rfl rfl rfl (Nat.le_of_ble_eq_true rfl) (by decide) dL_isBelt_197 rfl ?_
          refine j_iload 3 202 dL_isBelt_200 rfl rfl ?_
          refine j_if_ne 210 205 dL_isBelt_202 rfl (by decide) (by omega) (fun h_202 => ?_) (fun h => absurd h (by omega))
          refine j_aload_n 5 211 dL_isBelt_210 rfl rfl ?_
          refine j_aload_n 6 212 dL_isBelt_211 rfl rfl ?_
          refine j_aload_n 7 213 dL_isBelt_212 rfl rfl ?_
          refine j_iload 9 215 dL_isBelt_213 rfl rfl ?_
          refine j_callSiB (wcs := [_, _, _]) (cs := [_, _, _]) [1, 2, 3] 218 [_, _, _, _] (c_L_ticks E _ _ _ c n u (S 0) _ (by exact hx) (by exact hr.1) (by exact hr.2.2.1) (by exact hp) (by omega)) rfl rfl rfl kL_isBelt_L_ticks rfl rfl rfl rfl (Nat.le_of_ble_eq_true rfl) (by decide) dL_isBelt_215 rfl ?_
          refine j_eqn 221 dL_isBelt_218 rfl (by exact mc4) ⟨225, by decide⟩ ?_
          refine j_iconst 222 dL_isBelt_221 rfl ?_
          refine j_goto 226 dL_isBelt_222 (by decide) ?_
          refine j_istore 228 [_, _, _, _, _, _, _, _, _, _] dL_isBelt_226 rfl (by decide) rfl ?_
          refine j_iinc 9 231 [_, _, _, _, _, _, _, _, _, _] dL_isBelt_228 rfl rfl (by decide) rfl ?_
          refine j_goto 47 dL_isBelt_231 (by decide) ?_
          refine j_perm [6, 7, 8, 9, 4, 3, 1, 0] rfl ?_
          have g := ih (i + 1) (by omega) (by omega)
          rw [show jSum (fun i => if S 0 2 i = 2 then 1 else 0) (i + 1) = jSum (fun i => if S 0 2 i = 2 then 1 else 0) i + (if S 0 2 i = 2 then 1 else 0) from rfl] at g
          first
            | (rw [if_pos (by omega)] at g; exact g)
            | (rw [if_neg (by omega)] at g; exact g)
        · skip
          have d2i := d2 (by omega)
          refine j_iload 5 69 dL_isBelt_67 rfl rfl ?_
          refine j_iload 0 71 dL_isBelt_69 rfl rfl ?_
          refine j_iadd 72 dL_isBelt_71 rfl ?_
          refine j_istore 74 [_, _, _, _, _, _, _, _, _] dL_isBelt_72 rfl (by decide) rfl ?_
          refine j_iload 6 76 dL_isBelt_74 rfl rfl ?_
          refine j_iload 1 78 dL_isBelt_76 rfl rfl ?_
          refine j_iconst 79 dL_isBelt_78 rfl ?_
          refine j_icmp_ne 86 82 dL_isBelt_79 rfl (by decide) (by omega) (by omega) (fun h_79 => ?_) (fun h => absurd h (by omega))
          refine j_iconst 87 dL_isBelt_86 rfl ?_
          refine j_iadd 88 dL_isBelt_87 rfl ?_
          refine j_istore 90 [_, _, _, _, _, _, _, _, _] dL_isBelt_88 rfl (by decide) rfl ?_
          refine j_iload 2 92 dL_isBelt_90 rfl rfl ?_
          refine j_if_le 110 95 dL_isBelt_92 rfl (by decide) (by omega) (fun h => absurd h (by omega)) (fun h_92 => ?_)
          refine j_aload_n 4 96 dL_isBelt_95 rfl rfl ?_
          refine j_iconst 97 dL_isBelt_96 rfl ?_
          refine j_iload 8 99 dL_isBelt_97 rfl rfl ?_
          refine j_imul 100 dL_isBelt_99 rfl ?_
          refine j_iconst 101 dL_isBelt_100 rfl ?_
          refine j_iadd 102 dL_isBelt_101 rfl ?_
          refine j_ialdB 1 0 103 dL_isBelt_102 rfl rfl rfl (by decide) (by omega) ?_
          refine j_sipush 106 dL_isBelt_103 rfl (by decide) ?_
          refine j_idiv 107 dL_isBelt_106 rfl (by omega) (by decide) ?_
          refine j_goto 111 dL_isBelt_107 (by decide) ?_
          refine j_iload 2 113 dL_isBelt_111 rfl rfl ?_
          refine j_iconst 114 dL_isBelt_113 rfl ?_
          refine j_icmp_le 132 117 dL_isBelt_114 rfl (by decide) (by omega) (by omega) (fun h_114 => ?_) (fun h => absurd h (by omega))
          refine j_iconst 133 dL_isBelt_132 rfl ?_
          refine j_iadd 134 dL_isBelt_133 rfl ?_
          refine j_istore 136 [_, _, _, _, _, _, _, _, _, _] dL_isBelt_134 rfl (by decide) rfl ?_
          refine j_aload_n 4 137 dL_isBelt_136 rfl rfl ?_
          refine j_iload 9 139 dL_isBelt_137 rfl rfl ?_
          refine j_iconst 140 dL_isBelt_139 rfl ?_
          refine j_callViB (wcs := [_]) (cs := [_]) 0 0 [0] 143 [_, _, _, _] (c_X7_cup E _ _ _ _ _ _ _ _ (by exact hc0) (by omega) (by omega)) (jFl_1 _) (jFl_1 _) rfl kL_isBelt_X7_cup rfl rfl rfl rfl rfl rfl rfl (Nat.le_of_ble_eq_true rfl) (by decide) dL_isBelt_140 rfl ?_
          refine j_iload 3 145 dL_isBelt_143 rfl rfl ?_
          refine j_eqn 148 dL_isBelt_145 rfl (by exact mc1) ⟨225, by decide⟩ ?_
          refine j_aload_n 4 149 dL_isBelt_148 rfl rfl ?_
          refine j_iload 9 151 dL_isBelt_149 rfl rfl ?_
          refine j_iconst 152 dL_isBelt_151 rfl ?_
          refine j_callViB (wcs := [_]) (cs := [_]) 0 0 [0] 155 [_, _, _, _] (c_X7_cup E _ _ _ _ _ _ _ _ (by exact hc0) (by omega) (by omega)) (jFl_1 _) (jFl_1 _) rfl kL_isBelt_X7_cup rfl rfl rfl rfl rfl rfl rfl (Nat.le_of_ble_eq_true rfl) (by decide) dL_isBelt_152 rfl ?_
          refine j_iload 3 157 dL_isBelt_155 rfl rfl ?_
          refine j_if_le 176 160 dL_isBelt_157 rfl (by decide) (by omega) (fun h => absurd h (by omega)) (fun h_157 => ?_)
          refine j_iload 9 162 dL_isBelt_160 rfl rfl ?_
          refine j_if_le 176 165 dL_isBelt_162 rfl (by decide) (by omega) (fun h => absurd h (by omega)) (fun h_162 => ?_)
          refine j_aload_n 5 166 dL_isBelt_165 rfl rfl ?_
          refine j_iconst 167 dL_isBelt_166 rfl ?_
          refine j_iload 9 169 dL_isBelt_167 rfl rfl ?_
          refine j_imul 170 dL_isBelt_169 rfl ?_
          refine j_iconst 171 dL_isBelt_170 rfl ?_
          refine j_iadd 172 dL_isBelt_171 rfl ?_
          refine j_ialdB 1 0 173 dL_isBelt_172 rfl rfl rfl (by decide) (by omega) ?_
          refine j_goto 178 dL_isBelt_173 (by decide) ?_
          refine j_eqn 181 dL_isBelt_178 rfl (by rw [mc2, kb1]; exact if_pos (by omega)) ⟨225, by decide⟩ ?_
          refine j_aload_n 4 182 dL_isBelt_181 rfl rfl ?_
          refine j_iload 9 184 dL_isBelt_182 rfl rfl ?_
          refine j_iconst 185 dL_isBelt_184 rfl ?_
          refine j_callViB (wcs := [_]) (cs := [_]) 0 0 [0] 188 [_, _, _, _] (c_X7_cup E _ _ _ _ _ _ _ _ (by exact hc0) (by omega) (by omega)) (jFl_1 _) (jFl_1 _) rfl kL_isBelt_X7_cup rfl rfl rfl rfl rfl rfl rfl (Nat.le_of_ble_eq_true rfl) (by decide) dL_isBelt_185 rfl ?_
          refine j_iload 0 190 dL_isBelt_188 rfl rfl ?_
          refine j_eqn 193 dL_isBelt_190 rfl (by rw [mc3, kb2, if_pos (by omega), if_neg (by omega)]) ⟨225, by decide⟩ ?_
          refine j_aload_n 4 194 dL_isBelt_193 rfl rfl ?_
          refine j_iload 9 196 dL_isBelt_194 rfl rfl ?_
          refine j_iconst 197 dL_isBelt_196 rfl ?_
          refine j_callViB (wcs := [_]) (cs := [_]) 0 0 [0] 200 [_, _, _, _] (c_X7_cup E _ _ _ _ _ _ _ _ (by exact hc0) (by omega) (by omega)) (jFl_1 _) (jFl_1 _) rfl kL_isBelt_X7_cup rfl rfl rfl rfl rfl rfl rfl (Nat.le_of_ble_eq_true rfl) (by decide) dL_isBelt_197 rfl ?_
          refine j_iload 3 202 dL_isBelt_200 rfl rfl ?_
          refine j_if_ne 210 205 dL_isBelt_202 rfl (by decide) (by omega) (fun h_202 => ?_) (fun h => absurd h (by omega))
          refine j_aload_n 5 211 dL_isBelt_210 rfl rfl ?_
          refine j_aload_n 6 212 dL_isBelt_211 rfl rfl ?_
          refine j_aload_n 7 213 dL_isBelt_212 rfl rfl ?_
          refine j_iload 9 215 dL_isBelt_213 rfl rfl ?_
          refine j_callSiB (wcs := [_, _, _]) (cs := [_, _, _]) [1, 2, 3] 218 [_, _, _, _] (c_L_ticks E _ _ _ c n u (S 0) _ (by exact hx) (by exact hr.1) (by exact hr.2.2.1) (by exact hp) (by omega)) rfl rfl rfl kL_isBelt_L_ticks rfl rfl rfl rfl (Nat.le_of_ble_eq_true rfl) (by decide) dL_isBelt_215 rfl ?_
          refine j_eqn 221 dL_isBelt_218 rfl (by exact mc4) ⟨225, by decide⟩ ?_
          refine j_iconst 222 dL_isBelt_221 rfl ?_
          refine j_goto 226 dL_isBelt_222 (by decide) ?_
          refine j_istore 228 [_, _, _, _, _, _, _, _, _, _] dL_isBelt_226 rfl (by decide) rfl ?_
          refine j_iinc 9 231 [_, _, _, _, _, _, _, _, _, _] dL_isBelt_228 rfl rfl (by decide) rfl ?_
          refine j_goto 47 dL_isBelt_231 (by decide) ?_
          refine j_perm [6, 7, 8, 9, 4, 3, 1, 0] rfl ?_
          have g := ih (i + 1) (by omega) (by omega)
          rw [show jSum (fun i => if S 0 2 i = 2 then 1 else 0) (i + 1) = jSum (fun i => if S 0 2 i = 2 then 1 else 0) i + (if S 0 2 i = 2 then 1 else 0) from rfl] at g
          first
            | (rw [if_pos (by omega)] at g; exact g)
            | (rw [if_neg (by omega)] at g; exact g)
        · skip
          have d2i := d2 (by omega)
          have d3i := d3 (by omega)
          refine j_iload 5 69 dL_isBelt_67 rfl rfl ?_
          refine j_iload 0 71 dL_isBelt_69 rfl rfl ?_
          refine j_iadd 72 dL_isBelt_71 rfl ?_
          refine j_istore 74 [_, _, _, _, _, _, _, _, _] dL_isBelt_72 rfl (by decide) rfl ?_
          refine j_iload 6 76 dL_isBelt_74 rfl rfl ?_
          refine j_iload 1 78 dL_isBelt_76 rfl rfl ?_
          refine j_iconst 79 dL_isBelt_78 rfl ?_
          refine j_icmp_ne 86 82 dL_isBelt_79 rfl (by decide) (by omega) (by omega) (fun h => absurd h (by omega)) (fun h_79 => ?_)
          refine j_iconst 83 dL_isBelt_82 rfl ?_
          refine j_goto 87 dL_isBelt_83 (by decide) ?_
          refine j_iadd 88 dL_isBelt_87 rfl ?_
          refine j_istore 90 [_, _, _, _, _, _, _, _, _] dL_isBelt_88 rfl (by decide) rfl ?_
          refine j_iload 2 92 dL_isBelt_90 rfl rfl ?_
          refine j_if_le 110 95 dL_isBelt_92 rfl (by decide) (by omega) (fun h => absurd h (by omega)) (fun h_92 => ?_)
          refine j_aload_n 4 96 dL_isBelt_95 rfl rfl ?_
          refine j_iconst 97 dL_isBelt_96 rfl ?_
          refine j_iload 8 99 dL_isBelt_97 rfl rfl ?_
          refine j_imul 100 dL_isBelt_99 rfl ?_
          refine j_iconst 101 dL_isBelt_100 rfl ?_
          refine j_iadd 102 dL_isBelt_101 rfl ?_
          refine j_ialdB 1 0 103 dL_isBelt_102 rfl rfl rfl (by decide) (by omega) ?_
          refine j_sipush 106 dL_isBelt_103 rfl (by decide) ?_
          refine j_idiv 107 dL_isBelt_106 rfl (by omega) (by decide) ?_
          refine j_goto 111 dL_isBelt_107 (by decide) ?_
          refine j_iload 2 113 dL_isBelt_111 rfl rfl ?_
          refine j_iconst 114 dL_isBelt_113 rfl ?_
          refine j_icmp_le 132 117 dL_isBelt_114 rfl (by decide) (by omega) (by omega) (fun h => absurd h (by omega)) (fun h_114 => ?_)
          refine j_aload_n 4 118 dL_isBelt_117 rfl rfl ?_
          refine j_iconst 119 dL_isBelt_118 rfl ?_
          refine j_iload 8 121 dL_isBelt_119 rfl rfl ?_
          refine j_imul 122 dL_isBelt_121 rfl ?_
          refine j_iconst 123 dL_isBelt_122 rfl ?_
          refine j_iadd 124 dL_isBelt_123 rfl ?_
          refine j_ialdB 1 0 125 dL_isBelt_124 rfl rfl rfl (by decide) (by omega) ?_
          refine j_sipush 128 dL_isBelt_125 rfl (by decide) ?_
          refine j_idiv 129 dL_isBelt_128 rfl (by omega) (by decide) ?_
          refine j_goto 133 dL_isBelt_129 (by decide) ?_
          refine j_iadd 134 dL_isBelt_133 rfl ?_
          refine j_istore 136 [_, _, _, _, _, _, _, _, _, _] dL_isBelt_134 rfl (by decide) rfl ?_
          refine j_aload_n 4 137 dL_isBelt_136 rfl rfl ?_
          refine j_iload 9 139 dL_isBelt_137 rfl rfl ?_
          refine j_iconst 140 dL_isBelt_139 rfl ?_
          refine j_callViB (wcs := [_]) (cs := [_]) 0 0 [0] 143 [_, _, _, _] (c_X7_cup E _ _ _ _ _ _ _ _ (by exact hc0) (by omega) (by omega)) (jFl_1 _) (jFl_1 _) rfl kL_isBelt_X7_cup rfl rfl rfl rfl rfl rfl rfl (Nat.le_of_ble_eq_true rfl) (by decide) dL_isBelt_140 rfl ?_
          refine j_iload 3 145 dL_isBelt_143 rfl rfl ?_
          refine j_eqn 148 dL_isBelt_145 rfl (by exact mc1) ⟨225, by decide⟩ ?_
          refine j_aload_n 4 149 dL_isBelt_148 rfl rfl ?_
          refine j_iload 9 151 dL_isBelt_149 rfl rfl ?_
          refine j_iconst 152 dL_isBelt_151 rfl ?_
          refine j_callViB (wcs := [_]) (cs := [_]) 0 0 [0] 155 [_, _, _, _] (c_X7_cup E _ _ _ _ _ _ _ _ (by exact hc0) (by omega) (by omega)) (jFl_1 _) (jFl_1 _) rfl kL_isBelt_X7_cup rfl rfl rfl rfl rfl rfl rfl (Nat.le_of_ble_eq_true rfl) (by decide) dL_isBelt_152 rfl ?_
          refine j_iload 3 157 dL_isBelt_155 rfl rfl ?_
          refine j_if_le 176 160 dL_isBelt_157 rfl (by decide) (by omega) (fun h => absurd h (by omega)) (fun h_157 => ?_)
          refine j_iload 9 162 dL_isBelt_160 rfl rfl ?_
          refine j_if_le 176 165 dL_isBelt_162 rfl (by decide) (by omega) (fun h_162 => ?_) (fun h => absurd h (by omega))
          refine j_bipush 178 dL_isBelt_176 rfl (by decide) ?_
          refine j_eqn 181 dL_isBelt_178 rfl (by rw [mc2, kb1]; exact if_neg (by omega)) ⟨225, by decide⟩ ?_
          refine j_aload_n 4 182 dL_isBelt_181 rfl rfl ?_
          refine j_iload 9 184 dL_isBelt_182 rfl rfl ?_
          refine j_iconst 185 dL_isBelt_184 rfl ?_
          refine j_callViB (wcs := [_]) (cs := [_]) 0 0 [0] 188 [_, _, _, _] (c_X7_cup E _ _ _ _ _ _ _ _ (by exact hc0) (by omega) (by omega)) (jFl_1 _) (jFl_1 _) rfl kL_isBelt_X7_cup rfl rfl rfl rfl rfl rfl rfl (Nat.le_of_ble_eq_true rfl) (by decide) dL_isBelt_185 rfl ?_
          refine j_iload 0 190 dL_isBelt_188 rfl rfl ?_
          refine j_eqn 193 dL_isBelt_190 rfl (by rw [mc3, kb2, if_pos (by omega), if_pos (by omega)]) ⟨225, by decide⟩ ?_
          refine j_aload_n 4 194 dL_isBelt_193 rfl rfl ?_
          refine j_iload 9 196 dL_isBelt_194 rfl rfl ?_
          refine j_iconst 197 dL_isBelt_196 rfl ?_
          refine j_callViB (wcs := [_]) (cs := [_]) 0 0 [0] 200 [_, _, _, _] (c_X7_cup E _ _ _ _ _ _ _ _ (by exact hc0) (by omega) (by omega)) (jFl_1 _) (jFl_1 _) rfl kL_isBelt_X7_cup rfl rfl rfl rfl rfl rfl rfl (Nat.le_of_ble_eq_true rfl) (by decide) dL_isBelt_197 rfl ?_
          refine j_iload 3 202 dL_isBelt_200 rfl rfl ?_
          refine j_if_ne 210 205 dL_isBelt_202 rfl (by decide) (by omega) (fun h_202 => ?_) (fun h => absurd h (by omega))
          refine j_aload_n 5 211 dL_isBelt_210 rfl rfl ?_
          refine j_aload_n 6 212 dL_isBelt_211 rfl rfl ?_
          refine j_aload_n 7 213 dL_isBelt_212 rfl rfl ?_
          refine j_iload 9 215 dL_isBelt_213 rfl rfl ?_
          refine j_callSiB (wcs := [_, _, _]) (cs := [_, _, _]) [1, 2, 3] 218 [_, _, _, _] (c_L_ticks E _ _ _ c n u (S 0) _ (by exact hx) (by exact hr.1) (by exact hr.2.2.1) (by exact hp) (by omega)) rfl rfl rfl kL_isBelt_L_ticks rfl rfl rfl rfl (Nat.le_of_ble_eq_true rfl) (by decide) dL_isBelt_215 rfl ?_
          refine j_eqn 221 dL_isBelt_218 rfl (by exact mc4) ⟨225, by decide⟩ ?_
          refine j_iconst 222 dL_isBelt_221 rfl ?_
          refine j_goto 226 dL_isBelt_222 (by decide) ?_
          refine j_istore 228 [_, _, _, _, _, _, _, _, _, _] dL_isBelt_226 rfl (by decide) rfl ?_
          refine j_iinc 9 231 [_, _, _, _, _, _, _, _, _, _] dL_isBelt_228 rfl rfl (by decide) rfl ?_
          refine j_goto 47 dL_isBelt_231 (by decide) ?_
          refine j_perm [6, 7, 8, 9, 4, 3, 1, 0] rfl ?_
          have g := ih (i + 1) (by omega) (by omega)
          rw [show jSum (fun i => if S 0 2 i = 2 then 1 else 0) (i + 1) = jSum (fun i => if S 0 2 i = 2 then 1 else 0) i + (if S 0 2 i = 2 then 1 else 0) from rfl] at g
          first
            | (rw [if_pos (by omega)] at g; exact g)
            | (rw [if_neg (by omega)] at g; exact g)
        · skip
          have d2i := d2 (by omega)
          have d3i := d3 (by omega)
          refine j_iload 5 69 dL_isBelt_67 rfl rfl ?_
          refine j_iload 0 71 dL_isBelt_69 rfl rfl ?_
          refine j_iadd 72 dL_isBelt_71 rfl ?_
          refine j_istore 74 [_, _, _, _, _, _, _, _, _] dL_isBelt_72 rfl (by decide) rfl ?_
          refine j_iload 6 76 dL_isBelt_74 rfl rfl ?_
          refine j_iload 1 78 dL_isBelt_76 rfl rfl ?_
          refine j_iconst 79 dL_isBelt_78 rfl ?_
          refine j_icmp_ne 86 82 dL_isBelt_79 rfl (by decide) (by omega) (by omega) (fun h => absurd h (by omega)) (fun h_79 => ?_)
          refine j_iconst 83 dL_isBelt_82 rfl ?_
          refine j_goto 87 dL_isBelt_83 (by decide) ?_
          refine j_iadd 88 dL_isBelt_87 rfl ?_
          refine j_istore 90 [_, _, _, _, _, _, _, _, _] dL_isBelt_88 rfl (by decide) rfl ?_
          refine j_iload 2 92 dL_isBelt_90 rfl rfl ?_
          refine j_if_le 110 95 dL_isBelt_92 rfl (by decide) (by omega) (fun h => absurd h (by omega)) (fun h_92 => ?_)
          refine j_aload_n 4 96 dL_isBelt_95 rfl rfl ?_
          refine j_iconst 97 dL_isBelt_96 rfl ?_
          refine j_iload 8 99 dL_isBelt_97 rfl rfl ?_
          refine j_imul 100 dL_isBelt_99 rfl ?_
          refine j_iconst 101 dL_isBelt_100 rfl ?_
          refine j_iadd 102 dL_isBelt_101 rfl ?_
          refine j_ialdB 1 0 103 dL_isBelt_102 rfl rfl rfl (by decide) (by omega) ?_
          refine j_sipush 106 dL_isBelt_103 rfl (by decide) ?_
          refine j_idiv 107 dL_isBelt_106 rfl (by omega) (by decide) ?_
          refine j_goto 111 dL_isBelt_107 (by decide) ?_
          refine j_iload 2 113 dL_isBelt_111 rfl rfl ?_
          refine j_iconst 114 dL_isBelt_113 rfl ?_
          refine j_icmp_le 132 117 dL_isBelt_114 rfl (by decide) (by omega) (by omega) (fun h => absurd h (by omega)) (fun h_114 => ?_)
          refine j_aload_n 4 118 dL_isBelt_117 rfl rfl ?_
          refine j_iconst 119 dL_isBelt_118 rfl ?_
          refine j_iload 8 121 dL_isBelt_119 rfl rfl ?_
          refine j_imul 122 dL_isBelt_121 rfl ?_
          refine j_iconst 123 dL_isBelt_122 rfl ?_
          refine j_iadd 124 dL_isBelt_123 rfl ?_
          refine j_ialdB 1 0 125 dL_isBelt_124 rfl rfl rfl (by decide) (by omega) ?_
          refine j_sipush 128 dL_isBelt_125 rfl (by decide) ?_
          refine j_idiv 129 dL_isBelt_128 rfl (by omega) (by decide) ?_
          refine j_goto 133 dL_isBelt_129 (by decide) ?_
          refine j_iadd 134 dL_isBelt_133 rfl ?_
          refine j_istore 136 [_, _, _, _, _, _, _, _, _, _] dL_isBelt_134 rfl (by decide) rfl ?_
          refine j_aload_n 4 137 dL_isBelt_136 rfl rfl ?_
          refine j_iload 9 139 dL_isBelt_137 rfl rfl ?_
          refine j_iconst 140 dL_isBelt_139 rfl ?_
          refine j_callViB (wcs := [_]) (cs := [_]) 0 0 [0] 143 [_, _, _, _] (c_X7_cup E _ _ _ _ _ _ _ _ (by exact hc0) (by omega) (by omega)) (jFl_1 _) (jFl_1 _) rfl kL_isBelt_X7_cup rfl rfl rfl rfl rfl rfl rfl (Nat.le_of_ble_eq_true rfl) (by decide) dL_isBelt_140 rfl ?_
          refine j_iload 3 145 dL_isBelt_143 rfl rfl ?_
          refine j_eqn 148 dL_isBelt_145 rfl (by exact mc1) ⟨225, by decide⟩ ?_
          refine j_aload_n 4 149 dL_isBelt_148 rfl rfl ?_
          refine j_iload 9 151 dL_isBelt_149 rfl rfl ?_
          refine j_iconst 152 dL_isBelt_151 rfl ?_
          refine j_callViB (wcs := [_]) (cs := [_]) 0 0 [0] 155 [_, _, _, _] (c_X7_cup E _ _ _ _ _ _ _ _ (by exact hc0) (by omega) (by omega)) (jFl_1 _) (jFl_1 _) rfl kL_isBelt_X7_cup rfl rfl rfl rfl rfl rfl rfl (Nat.le_of_ble_eq_true rfl) (by decide) dL_isBelt_152 rfl ?_
          refine j_iload 3 157 dL_isBelt_155 rfl rfl ?_
          refine j_if_le 176 160 dL_isBelt_157 rfl (by decide) (by omega) (fun h => absurd h (by omega)) (fun h_157 => ?_)
          refine j_iload 9 162 dL_isBelt_160 rfl rfl ?_
          refine j_if_le 176 165 dL_isBelt_162 rfl (by decide) (by omega) (fun h => absurd h (by omega)) (fun h_162 => ?_)
          refine j_aload_n 5 166 dL_isBelt_165 rfl rfl ?_
          refine j_iconst 167 dL_isBelt_166 rfl ?_
          refine j_iload 9 169 dL_isBelt_167 rfl rfl ?_
          refine j_imul 170 dL_isBelt_169 rfl ?_
          refine j_iconst 171 dL_isBelt_170 rfl ?_
          refine j_iadd 172 dL_isBelt_171 rfl ?_
          refine j_ialdB 1 0 173 dL_isBelt_172 rfl rfl rfl (by decide) (by omega) ?_
          refine j_goto 178 dL_isBelt_173 (by decide) ?_
          refine j_eqn 181 dL_isBelt_178 rfl (by rw [mc2, kb1]; exact if_pos (by omega)) ⟨225, by decide⟩ ?_
          refine j_aload_n 4 182 dL_isBelt_181 rfl rfl ?_
          refine j_iload 9 184 dL_isBelt_182 rfl rfl ?_
          refine j_iconst 185 dL_isBelt_184 rfl ?_
          refine j_callViB (wcs := [_]) (cs := [_]) 0 0 [0] 188 [_, _, _, _] (c_X7_cup E _ _ _ _ _ _ _ _ (by exact hc0) (by omega) (by omega)) (jFl_1 _) (jFl_1 _) rfl kL_isBelt_X7_cup rfl rfl rfl rfl rfl rfl rfl (Nat.le_of_ble_eq_true rfl) (by decide) dL_isBelt_185 rfl ?_
          refine j_iload 0 190 dL_isBelt_188 rfl rfl ?_
          refine j_eqn 193 dL_isBelt_190 rfl (by rw [mc3, kb2, if_pos (by omega), if_pos (by omega)]) ⟨225, by decide⟩ ?_
          refine j_aload_n 4 194 dL_isBelt_193 rfl rfl ?_
          refine j_iload 9 196 dL_isBelt_194 rfl rfl ?_
          refine j_iconst 197 dL_isBelt_196 rfl ?_
          refine j_callViB (wcs := [_]) (cs := [_]) 0 0 [0] 200 [_, _, _, _] (c_X7_cup E _ _ _ _ _ _ _ _ (by exact hc0) (by omega) (by omega)) (jFl_1 _) (jFl_1 _) rfl kL_isBelt_X7_cup rfl rfl rfl rfl rfl rfl rfl (Nat.le_of_ble_eq_true rfl) (by decide) dL_isBelt_197 rfl ?_
          refine j_iload 3 202 dL_isBelt_200 rfl rfl ?_
          refine j_if_ne 210 205 dL_isBelt_202 rfl (by decide) (by omega) (fun h_202 => ?_) (fun h => absurd h (by omega))
          refine j_aload_n 5 211 dL_isBelt_210 rfl rfl ?_
          refine j_aload_n 6 212 dL_isBelt_211 rfl rfl ?_
          refine j_aload_n 7 213 dL_isBelt_212 rfl rfl ?_
          refine j_iload 9 215 dL_isBelt_213 rfl rfl ?_
          refine j_callSiB (wcs := [_, _, _]) (cs := [_, _, _]) [1, 2, 3] 218 [_, _, _, _] (c_L_ticks E _ _ _ c n u (S 0) _ (by exact hx) (by exact hr.1) (by exact hr.2.2.1) (by exact hp) (by omega)) rfl rfl rfl kL_isBelt_L_ticks rfl rfl rfl rfl (Nat.le_of_ble_eq_true rfl) (by decide) dL_isBelt_215 rfl ?_
          refine j_eqn 221 dL_isBelt_218 rfl (by exact mc4) ⟨225, by decide⟩ ?_
          refine j_iconst 222 dL_isBelt_221 rfl ?_
          refine j_goto 226 dL_isBelt_222 (by decide) ?_
          refine j_istore 228 [_, _, _, _, _, _, _, _, _, _] dL_isBelt_226 rfl (by decide) rfl ?_
          refine j_iinc 9 231 [_, _, _, _, _, _, _, _, _, _] dL_isBelt_228 rfl rfl (by decide) rfl ?_
          refine j_goto 47 dL_isBelt_231 (by decide) ?_
          refine j_perm [6, 7, 8, 9, 4, 3, 1, 0] rfl ?_
          have g := ih (i + 1) (by omega) (by omega)
          rw [show jSum (fun i => if S 0 2 i = 2 then 1 else 0) (i + 1) = jSum (fun i => if S 0 2 i = 2 then 1 else 0) i + (if S 0 2 i = 2 then 1 else 0) from rfl] at g
          first
            | (rw [if_pos (by omega)] at g; exact g)
            | (rw [if_neg (by omega)] at g; exact g)
  refine j_perm [4, 5, 6, 7, 3, 2, 1, 0] rfl ?_
  exact key47 13 0 (by omega) (by omega)
