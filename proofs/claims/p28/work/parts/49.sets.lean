/-! acts: both sides go on together -/
def KInv (N : Int) (S H : Nat → Nat → Int → Int) (P : Nat → Int → Int) (v : Int → Int) (c b n u e : Int → Int) : Prop := cOK S H P v ∧ sInv (S 0) N ∧ KRel 1 (S 0) c b n u e
abbrev KInvC (N : Int) (t : cSt) (c b n u e : Int → Int) : Prop := KInv N t.1 t.2.1 t.2.2.1 t.2.2.2 c b n u e
theorem KInv_up {N N' : Int} {S H : Nat → Nat → Int → Int} {P : Nat → Int → Int} {v : Int → Int} {c b n u e : Int → Int} (h : KInv N S H P v c b n u e) (hN : N ≤ N') : KInv N' S H P v c b n u e := by
  obtain ⟨h1, ⟨a, b, d⟩, h3⟩ := h
  exact ⟨h1, ⟨a, b, by omega⟩, h3⟩
theorem cU_all {p : (Nat → Int → Int) → Prop} {S : Nat → Nat → Int → Int} {k : Nat} {x : Nat → Int → Int} (h : ∀ i, p (S i)) (hx : p x) : ∀ i, p (cU S k x i) := by
  intro i
  by_cases q : i = k
  · subst q; rw [cU_at]; exact hx
  · rw [cU_ne q]; exact h i
theorem cOK_step {S H : Nat → Nat → Int → Int} {P : Nat → Int → Int} {v : Int → Int} {x' : Nat → Int → Int} (h : cOK S H P v) (hx' : sOK x') : cOK (cU S 0 x') (kH S H v) P (kV v) := by
  obtain ⟨okS, okH, rv1, rv2, rv0, rv3, rP⟩ := h
  have rO := hO_rng (sz := v 2) rv1
  have rM := hM_rng rv2
  have v1 : kV v 1 = hO (v 1) (v 2) := by unfold kV; rw [jU_ne (by omega), jU_at]
  have v2 : kV v 2 = hM (v 2) + 1 := by unfold kV; rw [jU_at]
  have v0 : kV v 0 = v 0 := by unfold kV; rw [jU_ne (by omega), jU_ne (by omega)]
  have v3 : kV v 3 = v 3 := by unfold kV; rw [jU_ne (by omega), jU_ne (by omega)]
  have cp : sOK (sCp (S 0) (H (hI (v 1) (v 2)))) := sOK_cp (okS 0) (okH _)
  exact ⟨cU_all okS hx', cU_all okH cp, by rw [v1]; exact rO, by rw [v2]; omega, by rw [v0]; exact rv0, by rw [v3]; exact rv3, rP⟩
theorem KInv_step {N : Int} {S H : Nat → Nat → Int → Int} {P : Nat → Int → Int} {v : Int → Int} {x' : Nat → Int → Int} {c b n u e : Int → Int} (h : cOK S H P v) (hx' : sInv x' N) (hr : KRel 1 x' c b n u e) : KInv N (cU S 0 x') (kH S H v) P (kV v) c b n u e := ⟨cOK_step h hx'.1, hx', hr⟩
section
variable {N : Int} {S H : Nat → Nat → Int → Int} {P : Nat → Int → Int} {v : Int → Int} {c b n u e : Int → Int}
theorem A_full (h : KInv N S H P v c b n u e) (h2 : c 0 = 2) {a r d : Int} (tt : (50 ≤ a ∧ a ≤ 300) ∧ (0 ≤ r ∧ r ≤ 100) ∧ (0 ≤ d ∧ d ≤ 9)) : mLay S H P v a r d = (-3, S, H, P, v) := by
  have ti : tIn a r d = 1 := if_pos tt
  obtain ⟨k1, -, -⟩ := K_cup0 h.2.2
  unfold mLay
  rw [if_neg (by omega), if_pos (by omega)]
theorem A_lay (h : KInv N S H P v c b n u e) (h2 : ¬ c 0 = 2) {a r d : Int} (tt : (50 ≤ a ∧ a ≤ 300) ∧ (0 ≤ r ∧ r ≤ 100) ∧ (0 ≤ d ∧ d ≤ 9)) : ∃ t : cSt, mLay S H P v a r d = (c 0 + 1, t) ∧ KInvC (N + 1) t (jU (jU c (1 + c 0) (a * 10000 + r * 10 + d)) 0 (jU c (1 + c 0) (a * 10000 + r * 10 + d) 0 + 1)) b (jU n 11 (n 11 + 1)) u e := by
  have ti : tIn a r d = 1 := if_pos tt
  obtain ⟨k1, -, -⟩ := K_cup0 h.2.2
  have hx : sOK (S 0) := h.2.1.1
  have r2 : ∀ i, 0 ≤ S 0 2 i ∧ S 0 2 i ≤ 2 := hx 2
  have r20 := r2 0
  have tg := tOf_rng tt.1 tt.2.1 tt.2.2
  have tp := pk_of (a := a) (r := r) (b := d) (by omega) tt.2.1 tt.2.2
  refine ⟨(cU S 0 (sLay (S 0) (tOf a r d)), kH S H v, P, kV v), ?_, ?_⟩
  · unfold mLay
    rw [if_neg (by omega), if_neg (by omega), k1]
  · exact KInv_step h.1 (sInv_lay h.2.1 (by omega) tg) (K_lay hx h.2.2 (by omega) tp.symm)
theorem A_pass {c' b' n' u' e' : Int → Int} (h : cOK S H P v) (hi : sInv (S 0) N) (hN : N ≤ 60) {t : Int} (ht : 1 ≤ t ∧ t ≤ 30) (hr : KRel 1 (sPass (S 0) t.toNat).1 c' b' n' u' e') : ∃ q : cSt, mPass S H P v t = ((sPass (S 0) t.toNat).2, q) ∧ KInvC N q c' b' n' u' e' := by
  refine ⟨(cU S 0 (sPass (S 0) t.toNat).1, kH S H v, P, kV v), if_neg (by omega), ?_⟩
  exact KInv_step h (sInv_pass hi (by omega) _) hr
theorem A_pass1 {c' b' n' u' e' : Int → Int} (h : cOK S H P v) (hi : sInv (S 0) N) (hN : N ≤ 60) (hr : KRel 1 (sTick (S 0)) c' b' n' u' e') : ∃ q : cSt, mPass S H P v 1 = (sTickN (S 0), q) ∧ KInvC N q c' b' n' u' e' := by
  obtain ⟨q, e1, k1⟩ := A_pass (t := 1) h hi hN (by omega) hr
  refine ⟨q, ?_, k1⟩
  rw [e1]
  have e2 : (sPass (S 0) (1 : Int).toNat).2 = 0 + sTickN (S 0) := rfl
  rw [e2, Int.zero_add]
theorem A_drop (h : KInv N S H P v c b n u e) {r : Int} (hr : 0 ≤ r ∧ r < n 9) : ∃ q : cSt, mDrop S H P v r = (n 9 - 1, q) ∧ KInvC N q c b (jU n 9 (n 9 - 1)) (sh4 u (4 * r) (4 * (n 9 - 1))) e := by
  have s9 : n 9 = S 0 9 0 := h.2.2.2.2.1.2.2.1
  obtain ⟨k1, k2⟩ := K_out h.2.1.1 h.2.2 (r := r) (by omega)
  obtain ⟨a1, a2, a3⟩ := h.2.1
  refine ⟨(cU S 0 (sOut (S 0) r), kH S H v, P, kV v), ?_, ?_⟩
  · rw [s9]; exact if_pos (by omega)
  · exact KInv_step h.1 ⟨k2, a2, a3⟩ k1
theorem A_dropN (h : KInv N S H P v c b n u e) {r : Int} (hr : ¬ r < n 9) : mDrop S H P v r = (-1, S, H, P, v) := by
  have s9 : n 9 = S 0 9 0 := h.2.2.2.2.1.2.2.1
  exact if_neg (by omega)
theorem A_water (h : KInv N S H P v c b n u e) {l : Int} (hl : 0 ≤ l ∧ l < 4) : ∃ q : cSt, mWater S H P v l = (wXor (n 8) l / 2 ^ l.toNat % 2, q) ∧ KInvC N q c b (jU n 8 (wXor (n 8) l)) u e := by
  have hx : sOK (S 0) := h.2.1.1
  have r8 : ∀ i, S 0 8 i = 0 ∨ S 0 8 i = 1 := hx 8
  have r8l := r8 l
  have hw := h.2.2.2.2.1.2.1
  have jx := jXor (n 8) l hw.1 hl
  have w8 := kWat_at hw hl
  obtain ⟨a1, a2, a3⟩ := h.2.1
  refine ⟨(cU S 0 (jS (S 0) 8 (jU (S 0 8) l (1 - S 0 8 l))), kH S H v, P, kV v), ?_, ?_⟩
  · rw [jx.1.2.2, ← w8]; exact if_pos hl
  · exact KInv_step h.1 ⟨sOK_S hx (jU_all (P := fun z => z = 0 ∨ z = 1) (hx 8) (by omega)), a2, a3⟩ (K_water h.2.2 hl)
theorem A_empty (h : KInv N S H P v c b n u e) {l : Int} (hl : 0 ≤ l ∧ l ≤ 4) : ∃ q : cSt, mEmpty S H P v l = (n l, q) ∧ KInvC N q c b (jU (jU n l 0) 15 (jU n l 0 15 + n l)) u e := by
  have hx : sOK (S 0) := h.2.1.1
  have r5 : ∀ i, 0 ≤ S 0 5 i ∧ S 0 5 i ≤ 512 ∧ (i < 4 → S 0 5 i ≤ 20) := hx 5
  have r5l := r5 l
  obtain ⟨nl, kr⟩ := K_empty hx h.2.2 hl
  obtain ⟨a1, a2, a3⟩ := h.2.1
  have el : ((l.toNat : Nat) : Int) = l := by omega
  have k5 : sR 5 (jU (S 0 5) l 0) := by
    intro j
    unfold jU
    split
    · omega
    · exact r5 j
  have ok : sOK (sEmpty (S 0) l) := sOK_9 (sOK_S hx k5) (by omega)
  have sj := (jSum_jU (g := S 0 5) (z := 0) l.toNat 5).1 (by omega)
  rw [el] at sj
  have tot : sTot (sEmpty (S 0) l) = sTot (S 0) - S 0 5 l := by
    show jSum (jU (S 0 5) l 0) 5 + jSum (S 0 2) 12 = jSum (S 0 5) 5 + jSum (S 0 2) 12 - S 0 5 l
    omega
  refine ⟨(cU S 0 (sEmpty (S 0) l), kH S H v, P, kV v), ?_, ?_⟩
  · rw [nl]; exact if_pos hl
  · exact KInv_step h.1 ⟨ok, a2, by omega⟩ kr
theorem A_rule8 (h : KInv N S H P v c b n u e) (h8 : n 9 = 8) {p a r d l : Int} (hp : 0 ≤ p ∧ p ≤ n 9) (tt : (50 ≤ a ∧ a ≤ 300) ∧ (0 ≤ r ∧ r ≤ 100) ∧ (0 ≤ d ∧ d ≤ 9)) (hl : 0 ≤ l ∧ l < 4) : mRule S H P v p a r d l = (-3, S, H, P, v) := by
  have s9 : n 9 = S 0 9 0 := h.2.2.2.2.1.2.2.1
  have ti : tIn a r d = 1 := if_pos tt
  unfold mRule
  rw [if_neg (by omega), if_pos (by omega)]
theorem A_rule (h : KInv N S H P v c b n u e) (h8 : ¬ n 9 = 8) {p a r d l : Int} (hp : 0 ≤ p ∧ p ≤ n 9) (tt : (50 ≤ a ∧ a ≤ 300) ∧ (0 ≤ r ∧ r ≤ 100) ∧ (0 ≤ d ∧ d ≤ 9)) (hl : 0 ≤ l ∧ l < 4) : ∃ q : cSt, mRule S H P v p a r d l = (n 9 + 1, q) ∧ KInvC N q c b (jU n 9 (n 9 + 1)) (kIns u p (n 9) a r d l) e := by
  have hx : sOK (S 0) := h.2.1.1
  have r9 : 0 ≤ S 0 9 0 ∧ S 0 9 0 ≤ 8 := hx 9
  have s9 : n 9 = S 0 9 0 := h.2.2.2.2.1.2.2.1
  have ti : tIn a r d = 1 := if_pos tt
  have tg := tOf_rng tt.1 tt.2.1 tt.2.2
  have ok := sOK_rule (p := p) (t := tOf a r d) (l := l) hx (by omega) tg (by omega)
  obtain ⟨a1, a2, a3⟩ := h.2.1
  refine ⟨(cU S 0 (sRule (S 0) p (tOf a r d) l), kH S H v, P, kV v), ?_, ?_⟩
  · unfold mRule
    rw [if_neg (by omega), if_neg (by omega), s9]
  · exact KInv_step h.1 ⟨ok, a2, a3⟩ (K_rule hx h.2.2 (by omega) (by omega) tt.1 tt.2.1 tt.2.2)
theorem A_set (h : KInv N S H P v c b n u e) {w a : Int} (hw : 0 ≤ w ∧ w ≤ 2) (ha : setLo w ≤ a ∧ a ≤ setHi w) (h15 : w = 2 → a ≤ 15) : ∃ q : cSt, mSet S H P v w a = (n (5 + w) + (if w = 0 then 20 else 0), q) ∧ KInvC N q c b (jU n (5 + w) a) u e := by
  have hx : sOK (S 0) := h.2.1.1
  have r7 : (-20 ≤ S 0 7 0 ∧ S 0 7 0 ≤ 20) ∧ (0 ≤ S 0 7 1 ∧ S 0 7 1 ≤ 9) ∧ (1 ≤ S 0 7 2 ∧ S 0 7 2 ≤ 20) := hx 7
  obtain ⟨a1, a2, a3⟩ := h.2.1
  obtain ⟨s5, s6, s7, -⟩ := h.2.2.2.2.1.1
  have ok : sOK (jS (S 0) 7 (jU (S 0 7) w a)) := by
    refine sOK_S hx ?_
    show (-20 ≤ jU (S 0 7) w a 0 ∧ jU (S 0 7) w a 0 ≤ 20) ∧ (0 ≤ jU (S 0 7) w a 1 ∧ jU (S 0 7) w a 1 ≤ 9) ∧ (1 ≤ jU (S 0 7) w a 2 ∧ jU (S 0 7) w a 2 ≤ 20)
    unfold setLo setHi at ha
    rcases (show w = 0 ∨ w = 1 ∨ w = 2 by omega) with rfl | rfl | rfl
    · rw [if_pos rfl, if_neg (by omega)] at ha
      rw [jU_at, jU_ne (by omega), jU_ne (by omega)]; omega
    · rw [if_neg (by omega), if_pos rfl, if_pos rfl] at ha
      rw [jU_at, jU_ne (by omega), jU_ne (by omega)]; omega
    · rw [if_neg (by omega), if_neg (by omega), if_neg (by omega)] at ha
      rw [jU_at, jU_ne (by omega), jU_ne (by omega)]; omega
  refine ⟨(cU S 0 (jS (S 0) 7 (jU (S 0 7) w a)), kH S H v, P, kV v), ?_, ?_⟩
  · have e : mSet S H P v w a = (if w = 0 then S 0 7 w + 20 else S 0 7 w, cU S 0 (jS (S 0) 7 (jU (S 0 7) w a)), kH S H v, P, kV v) := if_neg (by omega)
    rw [e]
    refine congrArg (fun z => (z, _)) ?_
    rcases (show w = 0 ∨ w = 1 ∨ w = 2 by omega) with rfl | rfl | rfl
    · show S 0 7 0 + 20 = n 5 + 20
      omega
    · show S 0 7 1 = n 6 + 0
      omega
    · show S 0 7 2 = n 7 + 0
      omega
  · exact KInv_step h.1 ⟨ok, a2, a3⟩ (K_set h.2.2 hw h15)
end
theorem kL_isRule_X7_rule : jKv mL_isRule 60 yX7_rule wsX7_rule rmX7_rule 5 := ⟨gL_isRule_X7_rule, ⟨_, _, _, _, rfl, by decide⟩, by decide +kernel, rfl, rfl, by decide⟩
set_option maxRecDepth 100000 in
set_option maxHeartbeats 4000000 in
theorem c_L_isRule (E : jE) (ad qh : Nat → Nat → Nat) (S H : Nat → Nat → Int → Int) (P : Nat → Int → Int) (v : Int → Int) (na ua : Nat) (N : Int) (c b n u e : Int → Int) (y : Int) (hk : KInv N S H P v c b n u e) (hy : 0 ≤ y ∧ y < 2147483648) : jMX (T := cSt × (Int → Int) × (Int → Int)) jX0 E yL_isRule wsL_isRule rmL_isRule [.ref (ad 7 0), .ref na, .ref ua, .int (jI y)] (jFl [wEye E ad qh S H P v, wA E na 16 n, wA E ua 36 u]) (fun q => KInvC N q.1 c b q.2.1 q.2.2 e) (fun _ => 1) (fun q => jFl [wEyeC E ad qh q.1, wA E na 16 q.2.1, wA E ua 36 q.2.2]) := by
  refine jMX_of (cc := cL_isRule) (maxL := 10) (ret := (some .boolean)) [(0, .ref (ad 7 0)), (1, .ref na), (2, .ref ua), (3, .int (jI y))] (by decide) rfl rfl (Nat.le_of_ble_eq_true rfl) (fun C hT => ?_)
  show jG mL_isRule E C (jQx (T := cSt × (Int → Int) × (Int → Int)) E C (fun q => KInvC N q.1 c b q.2.1 q.2.2 e) (fun _ => 1) (fun q => jFl [wEyeC E ad qh q.1, wA E na 16 q.2.1, wA E ua 36 q.2.2])) 0 0 0 [(0, .ref (ad 7 0)), (1, .ref na), (2, .ref ua), (3, .int (jI y))] [] (jFl [wEye E ad qh S H P v, wA E na 16 n, wA E ua 36 u])
  have hc0 := hk.1
  have hx : sOK (S 0) := hk.1.1 0
  have r9 : 0 ≤ S 0 9 0 ∧ S 0 9 0 ≤ 8 := hx 9
  have s9 : n 9 = S 0 9 0 := hk.2.2.2.2.1.2.2.1
  have tt : (50 ≤ (50 + y / 9 % 3 * 60) ∧ (50 + y / 9 % 3 * 60) ≤ 300) ∧ (0 ≤ (y / 27 % 5 * 20) ∧ (y / 27 % 5 * 20) ≤ 100) ∧ (0 ≤ (y / 135 % 10) ∧ (y / 135 % 10) ≤ 9) := by omega
  have tl : 0 ≤ (y / 7 % 4) ∧ (y / 7 % 4) < 4 := by omega
  have tp1 : 0 ≤ (y % (n 9 + 1)) := Int.emod_nonneg _ (by omega)
  have tp2 : (y % (n 9 + 1)) < n 9 + 1 := Int.emod_lt_of_pos _ (by omega)
  have tp : 0 ≤ (y % (n 9 + 1)) ∧ (y % (n 9 + 1)) ≤ n 9 := by omega
  refine j_iload_n 3 1 dL_isRule_0 rfl rfl ?_
  refine j_aload_n 1 2 dL_isRule_1 rfl rfl ?_
  refine j_bipush 4 dL_isRule_2 rfl (by decide) ?_
  refine j_ialdB 1 0 5 dL_isRule_4 rfl rfl rfl (by decide) (by omega) ?_
  refine j_iconst 6 dL_isRule_5 rfl ?_
  refine j_iadd 7 dL_isRule_6 rfl ?_
  refine j_irem 8 dL_isRule_7 rfl (by omega) (by omega) ?_
  refine j_istore 10 [_, _, _, _, _] dL_isRule_8 rfl (by decide) rfl ?_
  refine j_bipush 12 dL_isRule_10 rfl (by decide) ?_
  refine j_iload_n 4 13 dL_isRule_12 rfl rfl ?_
  refine j_bipush 15 dL_isRule_13 rfl (by decide) ?_
  refine j_idiv 16 dL_isRule_15 rfl (by omega) (by decide) ?_
  refine j_iconst 17 dL_isRule_16 rfl ?_
  refine j_irem 18 dL_isRule_17 rfl (by omega) (by decide) ?_
  refine j_bipush 20 dL_isRule_18 rfl (by decide) ?_
  refine j_imul 21 dL_isRule_20 rfl ?_
  refine j_iadd 22 dL_isRule_21 rfl ?_
  refine j_istore 24 [_, _, _, _, _, _] dL_isRule_22 rfl (by decide) rfl ?_
  refine j_iload_n 5 25 dL_isRule_24 rfl rfl ?_
  refine j_bipush 27 dL_isRule_25 rfl (by decide) ?_
  refine j_idiv 28 dL_isRule_27 rfl (by omega) (by decide) ?_
  refine j_iconst 29 dL_isRule_28 rfl ?_
  refine j_irem 30 dL_isRule_29 rfl (by omega) (by decide) ?_
  refine j_bipush 32 dL_isRule_30 rfl (by decide) ?_
  refine j_imul 33 dL_isRule_32 rfl ?_
  refine j_istore 35 [_, _, _, _, _, _, _] dL_isRule_33 rfl (by decide) rfl ?_
  refine j_iload_n 6 36 dL_isRule_35 rfl rfl ?_
  refine j_sipush 39 dL_isRule_36 rfl (by decide) ?_
  refine j_idiv 40 dL_isRule_39 rfl (by omega) (by decide) ?_
  refine j_bipush 42 dL_isRule_40 rfl (by decide) ?_
  refine j_irem 43 dL_isRule_42 rfl (by omega) (by decide) ?_
  refine j_istore 45 [_, _, _, _, _, _, _, _] dL_isRule_43 rfl (by decide) rfl ?_
  refine j_iload_n 7 46 dL_isRule_45 rfl rfl ?_
  refine j_bipush 48 dL_isRule_46 rfl (by decide) ?_
  refine j_idiv 49 dL_isRule_48 rfl (by omega) (by decide) ?_
  refine j_iconst 50 dL_isRule_49 rfl ?_
  refine j_irem 51 dL_isRule_50 rfl (by omega) (by decide) ?_
  refine j_istore 53 [_, _, _, _, _, _, _, _, _] dL_isRule_51 rfl (by decide) rfl ?_
  refine j_aload_n 6 54 dL_isRule_53 rfl rfl ?_
  refine j_bipush 56 dL_isRule_54 rfl (by decide) ?_
  refine j_ialdB 1 0 57 dL_isRule_56 rfl rfl rfl (by decide) (by omega) ?_
  refine j_bipush 59 dL_isRule_57 rfl (by decide) ?_
  refine j_icmp_ne 87 62 dL_isRule_59 rfl (by decide) (by omega) (by omega) (fun h_59 => ?_) (fun h_59 => ?_)
  · skip
    obtain ⟨⟨S1, H1, P1, v1⟩, e1, k1⟩ := A_rule hk h_59 tp tt tl
    refine j_iconst 88 dL_isRule_87 rfl ?_
    refine j_aload_n 6 89 dL_isRule_88 rfl rfl ?_
    refine j_bipush 91 dL_isRule_89 rfl (by decide) ?_
    refine j_ialdB 1 0 92 dL_isRule_91 rfl rfl rfl (by decide) (by omega) ?_
    refine j_imul 93 dL_isRule_92 rfl ?_
    refine j_iconst 94 dL_isRule_93 rfl ?_
    refine j_iadd 95 dL_isRule_94 rfl ?_
    refine j_istore 97 [_, _, _, _, _, _, _, _, _, _] dL_isRule_95 rfl (by decide) rfl ?_
    have key97 : ∀ (fu : Nat) (i : Int), i < fu → 4 * (y % (n 9 + 1)) + 3 ≤ i ∧ i ≤ 4 * n 9 + 3 → jG mL_isRule E C (jQx (T := cSt × (Int → Int) × (Int → Int)) E C (fun q => KInvC N q.1 c b q.2.1 q.2.2 e) (fun _ => 1) (fun q => jFl [wEyeC E ad qh q.1, wA E na 16 q.2.1, wA E ua 36 q.2.2])) 0 0 97 [(0, .ref (ad 7 0)), (1, .ref na), (2, .ref ua), (3, .int (jI y)), (4, .int (jI (y % (n 9 + 1)))), (5, .int (jI (50 + y / 9 % 3 * 60))), (6, .int (jI (y / 27 % 5 * 20))), (7, .int (jI (y / 135 % 10))), (8, .int (jI (y / 7 % 4))), (9, .int (jI i))] [] (jFl [wEye E ad qh S H P v, wA E na 16 n, wA E ua 36 (sh1 u 4 i (4 * n 9 + 3))]) := by
      intro fu
      induction fu with
      | zero => intro i h1 h2; exact absurd h1 (by omega)
      | succ fu ih =>
        intro i h1 h2
        refine j_iload 9 99 dL_isRule_97 rfl rfl ?_
        refine j_iconst 100 dL_isRule_99 rfl ?_
        refine j_iload 4 102 dL_isRule_100 rfl rfl ?_
        refine j_imul 103 dL_isRule_102 rfl ?_
        refine j_iconst 104 dL_isRule_103 rfl ?_
        refine j_iadd 105 dL_isRule_104 rfl ?_
        refine j_icmp_le 124 108 dL_isRule_105 rfl (by decide) (by omega) (by omega) (fun h_105 => ?_) (fun h_105 => ?_)
        · skip
          obtain rfl : i = 4 * (y % (n 9 + 1)) + 3 := by omega
          refine j_aload_n 2 125 dL_isRule_124 rfl rfl ?_
          refine j_iconst 126 dL_isRule_125 rfl ?_
          refine j_iload 4 128 dL_isRule_126 rfl rfl ?_
          refine j_imul 129 dL_isRule_128 rfl ?_
          refine j_iload 5 131 dL_isRule_129 rfl rfl ?_
          refine j_iastB 2 0 132 [_] [_, _, _] dL_isRule_131 rfl rfl rfl (by decide) (by omega) rfl rfl ?_
          refine j_aload_n 2 133 dL_isRule_132 rfl rfl ?_
          refine j_iconst 134 dL_isRule_133 rfl ?_
          refine j_iload 4 136 dL_isRule_134 rfl rfl ?_
          refine j_imul 137 dL_isRule_136 rfl ?_
          refine j_iconst 138 dL_isRule_137 rfl ?_
          refine j_iadd 139 dL_isRule_138 rfl ?_
          refine j_iload 6 141 dL_isRule_139 rfl rfl ?_
          refine j_iastB 2 0 142 [_] [_, _, _] dL_isRule_141 rfl rfl rfl (by decide) (by omega) rfl rfl ?_
          refine j_aload_n 2 143 dL_isRule_142 rfl rfl ?_
          refine j_iconst 144 dL_isRule_143 rfl ?_
          refine j_iload 4 146 dL_isRule_144 rfl rfl ?_
          refine j_imul 147 dL_isRule_146 rfl ?_
          refine j_iconst 148 dL_isRule_147 rfl ?_
          refine j_iadd 149 dL_isRule_148 rfl ?_
          refine j_iload 7 151 dL_isRule_149 rfl rfl ?_
          refine j_iastB 2 0 152 [_] [_, _, _] dL_isRule_151 rfl rfl rfl (by decide) (by omega) rfl rfl ?_
          refine j_aload_n 2 153 dL_isRule_152 rfl rfl ?_
          refine j_iconst 154 dL_isRule_153 rfl ?_
          refine j_iload 4 156 dL_isRule_154 rfl rfl ?_
          refine j_imul 157 dL_isRule_156 rfl ?_
          refine j_iconst 158 dL_isRule_157 rfl ?_
          refine j_iadd 159 dL_isRule_158 rfl ?_
          refine j_iload 8 161 dL_isRule_159 rfl rfl ?_
          refine j_iastB 2 0 162 [_] [_, _, _] dL_isRule_161 rfl rfl rfl (by decide) (by omega) rfl rfl ?_
          refine j_aload_n 1 163 dL_isRule_162 rfl rfl ?_
          refine j_bipush 165 dL_isRule_163 rfl (by decide) ?_
          refine j_dup2 166 dL_isRule_165 rfl rfl rfl ?_
          refine j_ialdB 1 0 167 dL_isRule_166 rfl rfl rfl (by decide) (by omega) ?_
          refine j_iconst 168 dL_isRule_167 rfl ?_
          refine j_iadd 169 dL_isRule_168 rfl ?_
          refine j_iastB 1 0 170 [_] [_, _, _] dL_isRule_169 rfl rfl rfl (by decide) (by omega) rfl rfl ?_
          refine j_aload_n 0 171 dL_isRule_170 rfl rfl ?_
          refine j_iload 4 173 dL_isRule_171 rfl rfl ?_
          refine j_iload 5 175 dL_isRule_173 rfl rfl ?_
          refine j_iload 6 177 dL_isRule_175 rfl rfl ?_
          refine j_iload 7 179 dL_isRule_177 rfl rfl ?_
          refine j_iload 8 181 dL_isRule_179 rfl rfl ?_
          refine j_callViB (wcs := [_]) (cs := [_]) 0 0 [0] 184 [_, _, _] (c_X7_rule E _ _ _ _ _ _ _ _ _ _ _ (by exact hc0) (by omega) (by omega) (by omega) (by omega) (by omega)) (jFl_1 _) (jFl_1 _) rfl kL_isRule_X7_rule rfl rfl rfl rfl rfl rfl rfl (Nat.le_of_ble_eq_true rfl) (by decide) dL_isRule_181 rfl ?_
          rw [e1]
          change jG _ E C _ 0 0 184 _ (.int (jI (n 9 + 1)) :: _) (jFl [wEye E ad qh S1 H1 P1 v1, _, _])
          refine j_aload_n 1 185 dL_isRule_184 rfl rfl ?_
          refine j_bipush 187 dL_isRule_185 rfl (by decide) ?_
          refine j_ialdB 1 0 188 dL_isRule_187 rfl rfl rfl (by decide) (by omega) ?_
          refine j_eqn 191 dL_isRule_188 rfl (by exact (jU_at _ _ _).symm) ⟨195, by decide⟩ ?_
          refine j_iconst 192 dL_isRule_191 rfl ?_
          refine j_goto 196 dL_isRule_192 (by decide) ?_
          refine j_xzret ((S1, H1, P1, v1), jU n 9 (n 9 + 1), kIns u (y % (n 9 + 1)) (n 9) (50 + y / 9 % 3 * 60) (y / 27 % 5 * 20) (y / 135 % 10) (y / 7 % 4)) dL_isRule_196 rfl (by rfl) (by decide) ?_ rfl
          exact k1
        · skip
          refine j_aload_n 2 109 dL_isRule_108 rfl rfl ?_
          refine j_iload 9 111 dL_isRule_109 rfl rfl ?_
          refine j_aload_n 2 112 dL_isRule_111 rfl rfl ?_
          refine j_iload 9 114 dL_isRule_112 rfl rfl ?_
          refine j_iconst 115 dL_isRule_114 rfl ?_
          refine j_isub 116 dL_isRule_115 rfl ?_
          refine j_ialdB 2 0 117 dL_isRule_116 rfl rfl rfl (by decide) (by omega) ?_
          refine j_iastB 2 0 118 [_] [_, _, _] dL_isRule_117 rfl rfl rfl (by decide) (by omega) rfl rfl ?_
          refine j_iinc 9 121 [_, _, _, _, _, _, _, _, _, _] dL_isRule_118 rfl rfl (by decide) rfl ?_
          refine j_goto 97 dL_isRule_121 (by decide) ?_
          refine j_perm [1, 2, 3, 4, 5, 6, 7, 8, 9, 0] rfl ?_
          rw [sh1_step (by omega) (by omega)]
          exact ih (i - 1) (by omega) (by omega)
    refine j_perm [6, 7, 8, 9, 5, 4, 3, 2, 1, 0] rfl ?_
    refine j_eqw (w' := jFl [wEye E ad qh S H P v, wA E na 16 n, wA E ua 36 (sh1 u 4 (4 * n 9 + 3) (4 * n 9 + 3))]) (by rw [sh1_start]) ?_
    exact key97 ((4 * n 9 + 4).toNat) (4 * n 9 + 3) (by omega) (by omega)
  · skip
    have e1 := A_rule8 hk (by omega) tp tt tl
    refine j_aload_n 5 63 dL_isRule_62 rfl rfl ?_
    refine j_iload 4 65 dL_isRule_63 rfl rfl ?_
    refine j_iload 3 67 dL_isRule_65 rfl rfl ?_
    refine j_iload 2 69 dL_isRule_67 rfl rfl ?_
    refine j_iload 1 71 dL_isRule_69 rfl rfl ?_
    refine j_iload 0 73 dL_isRule_71 rfl rfl ?_
    refine j_callViB (wcs := [_]) (cs := [_]) 0 0 [0] 76 [_, _, _] (c_X7_rule E _ _ _ _ _ _ _ _ _ _ _ (by exact hc0) (by omega) (by omega) (by omega) (by omega) (by omega)) (jFl_1 _) (jFl_1 _) rfl kL_isRule_X7_rule rfl rfl rfl rfl rfl rfl rfl (Nat.le_of_ble_eq_true rfl) (by decide) dL_isRule_73 rfl ?_
    rw [e1]
    refine j_bipush 78 dL_isRule_76 rfl (by decide) ?_
    refine j_eqn 81 dL_isRule_78 rfl (by rfl) ⟨85, by decide⟩ ?_
    refine j_iconst 82 dL_isRule_81 rfl ?_
    refine j_goto 86 dL_isRule_82 (by decide) ?_
    refine j_xzret ((S, H, P, v), n, u) dL_isRule_86 rfl (by rfl) (by decide) ?_ rfl
    exact hk
theorem kL_isSet_X7_set : jKv mL_isSet 64 yX7_set wsX7_set rmX7_set 2 := ⟨gL_isSet_X7_set, ⟨_, _, _, _, rfl, by decide⟩, by decide +kernel, rfl, rfl, by decide⟩
set_option maxRecDepth 100000 in
set_option maxHeartbeats 4000000 in
theorem c_L_isSet (E : jE) (ad qh : Nat → Nat → Nat) (S H : Nat → Nat → Int → Int) (P : Nat → Int → Int) (v : Int → Int) (na : Nat) (N : Int) (c b n u e : Int → Int) (w y : Int) (hk : KInv N S H P v c b n u e) (hy : 0 ≤ y ∧ y < 2147483648) (hw : 0 ≤ w ∧ w ≤ 2) : jMX (T := cSt × (Int → Int)) jT2 E yL_isSet wsL_isSet rmL_isSet [.ref (ad 7 0), .ref na, .int (jI w), .int (jI y)] (jFl [wEye E ad qh S H P v, wA E na 16 n]) (fun q => KInvC N q.1 c b q.2 u e) (fun _ => 1) (fun q => jFl [wEyeC E ad qh q.1, wA E na 16 q.2]) := by
  refine jMX_of (cc := cL_isSet) (maxL := 6) (ret := (some .boolean)) [(0, .ref (ad 7 0)), (1, .ref na), (2, .int (jI w)), (3, .int (jI y))] (by decide) rfl rfl (Nat.le_of_ble_eq_true rfl) (fun C hT => ?_)
  show jG mL_isSet E C (jQx (T := cSt × (Int → Int)) E C (fun q => KInvC N q.1 c b q.2 u e) (fun _ => 1) (fun q => jFl [wEyeC E ad qh q.1, wA E na 16 q.2])) 0 0 0 [(0, .ref (ad 7 0)), (1, .ref na), (2, .int (jI w)), (3, .int (jI y))] [] (jFl [wEye E ad qh S H P v, wA E na 16 n])
  have hc0 := hk.1
  have r7 := kSet_rng (hk.1.1 0) hk.2.2.2.2.1.1
  rcases (show w = 0 ∨ w = 1 ∨ w = 2 by omega) with rfl | rfl | rfl
  · skip
    refine j_iload_n 2 1 dL_isSet_0 rfl rfl ?_
    refine j_if_ne 14 4 dL_isSet_1 rfl (by decide) (by omega) (fun h => absurd h (by omega)) (fun h_1 => ?_)
    refine j_iload_n 3 5 dL_isSet_4 rfl rfl ?_
    refine j_bipush 7 dL_isSet_5 rfl (by decide) ?_
    refine j_irem 8 dL_isSet_7 rfl (by omega) (by decide) ?_
    refine j_bipush 10 dL_isSet_8 rfl (by decide) ?_
    refine j_isub 11 dL_isSet_10 rfl ?_
    refine j_goto 32 dL_isSet_11 (by decide) ?_
    refine j_istore 34 [_, _, _, _, _] dL_isSet_32 rfl (by decide) rfl ?_
    refine j_aload_n 2 35 dL_isSet_34 rfl rfl ?_
    refine j_iconst 36 dL_isSet_35 rfl ?_
    refine j_iload_n 3 37 dL_isSet_36 rfl rfl ?_
    refine j_iadd 38 dL_isSet_37 rfl ?_
    refine j_ialdB 1 0 39 dL_isSet_38 rfl rfl rfl (by decide) (by omega) ?_
    refine j_iload_n 3 40 dL_isSet_39 rfl rfl ?_
    refine j_if_ne 48 43 dL_isSet_40 rfl (by decide) (by omega) (fun h => absurd h (by omega)) (fun h_40 => ?_)
    refine j_bipush 45 dL_isSet_43 rfl (by decide) ?_
    refine j_goto 49 dL_isSet_45 (by decide) ?_
    refine j_iadd 50 dL_isSet_49 rfl ?_
    refine j_istore 52 [_, _, _, _, _, _] dL_isSet_50 rfl (by decide) rfl ?_
    refine j_aload_n 3 53 dL_isSet_52 rfl rfl ?_
    refine j_iconst 54 dL_isSet_53 rfl ?_
    refine j_iload_n 4 55 dL_isSet_54 rfl rfl ?_
    refine j_iadd 56 dL_isSet_55 rfl ?_
    refine j_iload 1 58 dL_isSet_56 rfl rfl ?_
    refine j_iastB 1 0 59 [_] [_, _] dL_isSet_58 rfl rfl rfl (by decide) (by omega) rfl rfl ?_
    have l0 : setLo 0 = -20 := rfl
    have l1 : setHi 0 = 20 := rfl
    obtain ⟨⟨S1, H1, P1, v1⟩, e1, k1⟩ := A_set hk (w := 0) (a := (y % 41 - 20)) (by omega) (by omega) (by omega)
    refine j_aload_n 2 60 dL_isSet_59 rfl rfl ?_
    refine j_iload_n 4 61 dL_isSet_60 rfl rfl ?_
    refine j_iload 1 63 dL_isSet_61 rfl rfl ?_
    refine j_callSetB (wcs := [_]) (cs := [_]) 0 0 [0] 66 [_, _] hT (c_X7_set E _ _ _ _ _ _ _ _ (by exact hc0) (by omega) (by omega)) (jFl_1 _) (jFl_1 _) rfl kL_isSet_X7_set rfl rfl rfl rfl rfl rfl rfl (Nat.le_of_ble_eq_true rfl) (by decide) dL_isSet_63 rfl ?_
    rw [e1]
    refine j_iload 0 68 dL_isSet_66 rfl rfl ?_
    refine j_eqn 71 dL_isSet_68 rfl (by rfl) ⟨75, by decide⟩ ?_
    refine j_iconst 72 dL_isSet_71 rfl ?_
    refine j_goto 76 dL_isSet_72 (by decide) ?_
    refine j_xzret ((S1, H1, P1, v1), jU n (5 + 0) (y % 41 - 20)) dL_isSet_76 rfl (by rfl) (by decide) ?_ rfl
    exact k1
  · skip
    refine j_iload_n 2 1 dL_isSet_0 rfl rfl ?_
    refine j_if_ne 14 4 dL_isSet_1 rfl (by decide) (by omega) (fun h_1 => ?_) (fun h => absurd h (by omega))
    refine j_iload_n 2 15 dL_isSet_14 rfl rfl ?_
    refine j_iconst 16 dL_isSet_15 rfl ?_
    refine j_icmp_ne 26 19 dL_isSet_16 rfl (by decide) (by omega) (by omega) (fun h => absurd h (by omega)) (fun h_16 => ?_)
    refine j_iload_n 3 20 dL_isSet_19 rfl rfl ?_
    refine j_bipush 22 dL_isSet_20 rfl (by decide) ?_
    refine j_irem 23 dL_isSet_22 rfl (by omega) (by decide) ?_
    refine j_goto 32 dL_isSet_23 (by decide) ?_
    refine j_istore 34 [_, _, _, _, _] dL_isSet_32 rfl (by decide) rfl ?_
    refine j_aload_n 2 35 dL_isSet_34 rfl rfl ?_
    refine j_iconst 36 dL_isSet_35 rfl ?_
    refine j_iload_n 3 37 dL_isSet_36 rfl rfl ?_
    refine j_iadd 38 dL_isSet_37 rfl ?_
    refine j_ialdB 1 0 39 dL_isSet_38 rfl rfl rfl (by decide) (by omega) ?_
    refine j_iload_n 3 40 dL_isSet_39 rfl rfl ?_
    refine j_if_ne 48 43 dL_isSet_40 rfl (by decide) (by omega) (fun h_40 => ?_) (fun h => absurd h (by omega))
    refine j_iconst 49 dL_isSet_48 rfl ?_
    refine j_iadd 50 dL_isSet_49 rfl ?_
    refine j_istore 52 [_, _, _, _, _, _] dL_isSet_50 rfl (by decide) rfl ?_
    refine j_aload_n 3 53 dL_isSet_52 rfl rfl ?_
    refine j_iconst 54 dL_isSet_53 rfl ?_
    refine j_iload_n 4 55 dL_isSet_54 rfl rfl ?_
    refine j_iadd 56 dL_isSet_55 rfl ?_
    refine j_iload 1 58 dL_isSet_56 rfl rfl ?_
    refine j_iastB 1 0 59 [_] [_, _] dL_isSet_58 rfl rfl rfl (by decide) (by omega) rfl rfl ?_
    have l0 : setLo 1 = 0 := rfl
    have l1 : setHi 1 = 9 := rfl
    obtain ⟨⟨S1, H1, P1, v1⟩, e1, k1⟩ := A_set hk (w := 1) (a := (y % 10)) (by omega) (by omega) (by omega)
    refine j_aload_n 2 60 dL_isSet_59 rfl rfl ?_
    refine j_iload_n 4 61 dL_isSet_60 rfl rfl ?_
    refine j_iload 1 63 dL_isSet_61 rfl rfl ?_
    refine j_callSetB (wcs := [_]) (cs := [_]) 0 0 [0] 66 [_, _] hT (c_X7_set E _ _ _ _ _ _ _ _ (by exact hc0) (by omega) (by omega)) (jFl_1 _) (jFl_1 _) rfl kL_isSet_X7_set rfl rfl rfl rfl rfl rfl rfl (Nat.le_of_ble_eq_true rfl) (by decide) dL_isSet_63 rfl ?_
    rw [e1]
    refine j_iload 0 68 dL_isSet_66 rfl rfl ?_
    refine j_eqn 71 dL_isSet_68 rfl (by rfl) ⟨75, by decide⟩ ?_
    refine j_iconst 72 dL_isSet_71 rfl ?_
    refine j_goto 76 dL_isSet_72 (by decide) ?_
    refine j_xzret ((S1, H1, P1, v1), jU n (5 + 1) (y % 10)) dL_isSet_76 rfl (by rfl) (by decide) ?_ rfl
    exact k1
  · skip
    refine j_iload_n 2 1 dL_isSet_0 rfl rfl ?_
    refine j_if_ne 14 4 dL_isSet_1 rfl (by decide) (by omega) (fun h_1 => ?_) (fun h => absurd h (by omega))
    refine j_iload_n 2 15 dL_isSet_14 rfl rfl ?_
    refine j_iconst 16 dL_isSet_15 rfl ?_
    refine j_icmp_ne 26 19 dL_isSet_16 rfl (by decide) (by omega) (by omega) (fun h_16 => ?_) (fun h => absurd h (by omega))
    refine j_iconst 27 dL_isSet_26 rfl ?_
    refine j_iload_n 3 28 dL_isSet_27 rfl rfl ?_
    refine j_bipush 30 dL_isSet_28 rfl (by decide) ?_
    refine j_irem 31 dL_isSet_30 rfl (by omega) (by decide) ?_
    refine j_iadd 32 dL_isSet_31 rfl ?_
    refine j_istore 34 [_, _, _, _, _] dL_isSet_32 rfl (by decide) rfl ?_
    refine j_aload_n 2 35 dL_isSet_34 rfl rfl ?_
    refine j_iconst 36 dL_isSet_35 rfl ?_
    refine j_iload_n 3 37 dL_isSet_36 rfl rfl ?_
    refine j_iadd 38 dL_isSet_37 rfl ?_
    refine j_ialdB 1 0 39 dL_isSet_38 rfl rfl rfl (by decide) (by omega) ?_
    refine j_iload_n 3 40 dL_isSet_39 rfl rfl ?_
    refine j_if_ne 48 43 dL_isSet_40 rfl (by decide) (by omega) (fun h_40 => ?_) (fun h => absurd h (by omega))
    refine j_iconst 49 dL_isSet_48 rfl ?_
    refine j_iadd 50 dL_isSet_49 rfl ?_
    refine j_istore 52 [_, _, _, _, _, _] dL_isSet_50 rfl (by decide) rfl ?_
    refine j_aload_n 3 53 dL_isSet_52 rfl rfl ?_
    refine j_iconst 54 dL_isSet_53 rfl ?_
    refine j_iload_n 4 55 dL_isSet_54 rfl rfl ?_
    refine j_iadd 56 dL_isSet_55 rfl ?_
    refine j_iload 1 58 dL_isSet_56 rfl rfl ?_
    refine j_iastB 1 0 59 [_] [_, _] dL_isSet_58 rfl rfl rfl (by decide) (by omega) rfl rfl ?_
    have l0 : setLo 2 = 1 := rfl
    have l1 : setHi 2 = 20 := rfl
    obtain ⟨⟨S1, H1, P1, v1⟩, e1, k1⟩ := A_set hk (w := 2) (a := (1 + y % 15)) (by omega) (by omega) (by omega)
    refine j_aload_n 2 60 dL_isSet_59 rfl rfl ?_
    refine j_iload_n 4 61 dL_isSet_60 rfl rfl ?_
    refine j_iload 1 63 dL_isSet_61 rfl rfl ?_
    refine j_callSetB (wcs := [_]) (cs := [_]) 0 0 [0] 66 [_, _] hT (c_X7_set E _ _ _ _ _ _ _ _ (by exact hc0) (by omega) (by omega)) (jFl_1 _) (jFl_1 _) rfl kL_isSet_X7_set rfl rfl rfl rfl rfl rfl rfl (Nat.le_of_ble_eq_true rfl) (by decide) dL_isSet_63 rfl ?_
    rw [e1]
    refine j_iload 0 68 dL_isSet_66 rfl rfl ?_
    refine j_eqn 71 dL_isSet_68 rfl (by rfl) ⟨75, by decide⟩ ?_
    refine j_iconst 72 dL_isSet_71 rfl ?_
    refine j_goto 76 dL_isSet_72 (by decide) ?_
    refine j_xzret ((S1, H1, P1, v1), jU n (5 + 2) (1 + y % 15)) dL_isSet_76 rfl (by rfl) (by decide) ?_ rfl
    exact k1
