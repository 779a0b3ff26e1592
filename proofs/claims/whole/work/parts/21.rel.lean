/-! the two sides step by step -/
theorem Rel_low {x x' : Nat → Int → Int} {f f' : Int → Int} (hx : sOK x) (h : Rel x f) (e7 : x' 7 = x 7) (e8 : x' 8 = x 8) (e0 : x' 0 = x 0) (e1 : x' 1 = x 1) (e9 : x' 9 0 = x 9 0) (hf : ∀ k, 0 ≤ k → k < 37 → f' k = f k) : rSet x' f' ∧ rWat x' f' ∧ rRul x' f' := by
  have r9 : 0 ≤ x 9 0 ∧ x 9 0 ≤ 8 := hx 9
  obtain ⟨⟨s0, s1, s2⟩, ⟨w0, w1, w2, w3, w4⟩, ⟨u0, u1⟩, -⟩ := h
  refine ⟨⟨?_, ?_, ?_⟩, ⟨?_, ?_, ?_, ?_, ?_⟩, ?_, fun i h0 h1 => ?_⟩
  · rw [e7, hf 0 (by omega) (by omega)]; exact s0
  · rw [e7, hf 1 (by omega) (by omega)]; exact s1
  · rw [e7, hf 2 (by omega) (by omega)]; exact s2
  · rw [hf 3 (by omega) (by omega)]; exact w0
  · rw [e8, hf 3 (by omega) (by omega)]; exact w1
  · rw [e8, hf 3 (by omega) (by omega)]; exact w2
  · rw [e8, hf 3 (by omega) (by omega)]; exact w3
  · rw [e8, hf 3 (by omega) (by omega)]; exact w4
  · rw [e9, hf 4 (by omega) (by omega)]; exact u0
  · rw [e9] at h1
    rw [e0, e1, hf _ (by omega) (by omega), hf _ (by omega) (by omega), hf _ (by omega) (by omega), hf _ (by omega) (by omega)]
    exact u1 i h0 h1
theorem rCup_kept {x x' : Nat → Int → Int} {f f' : Int → Int} (hx : sOK x) (h : rCup x f) (e2 : x' 2 = x 2) (e3 : x' 3 = x 3) (e4 : x' 4 = x 4) (hf : ∀ k, 37 ≤ k → k < 85 → f' k = f k) : rCup x' f' := by
  intro p h0 h1
  have r2 : ∀ i, 0 ≤ x 2 i ∧ x 2 i ≤ 2 := hx 2
  have r2p := r2 p
  obtain ⟨a, b, c⟩ := h p h0 h1
  refine ⟨?_, ?_, fun j j0 j1 => ?_⟩
  · rw [e2, hf _ (by omega) (by omega)]; exact a
  · rw [e3, hf _ (by omega) (by omega)]; exact b
  · rw [e2] at j1
    rw [e4, hf _ (by omega) (by omega)]; exact c j j0 j1
theorem rBox_kept {x x' : Nat → Int → Int} {f f' : Int → Int} (hx : sOK x) (h : rBox x f) (e5 : x' 5 = x 5) (e6 : x' 6 = x 6) (hf : ∀ k, 85 ≤ k → (k < 170 ∨ 176 ≤ k) → f' k = f k) : rBox x' f' := by
  intro l h0 h1
  have r5 : ∀ i, 0 ≤ x 5 i ∧ x 5 i ≤ 512 ∧ (i < 4 → x 5 i ≤ 20) := hx 5
  have r5l := r5 l
  obtain ⟨a, b⟩ := h l h0 h1
  refine ⟨?_, fun j j0 j1 => ?_⟩
  · rw [e5, hf _ (by omega) (by omega)]; exact a
  · rw [e5] at j1
    have hb : 85 ≤ bxA l + j ∧ (bxA l + j < 170 ∨ 176 ≤ bxA l + j) := by unfold bxA; split <;> omega
    rw [e6, hf _ hb.1 hb.2]; exact b j j0 j1
theorem Rel_RelR {x : Nat → Int → Int} {f : Int → Int} (h : Rel x f) : RelR x f := ⟨h.1, h.2.2.1⟩
theorem Rel_tick1 {x : Nat → Int → Int} {f : Int → Int} (hx : sOK x) (h : Rel x f) : Rel (jS x 9 (jU (x 9) 1 (x 9 1 + 1))) (jU f 170 (f 170 + 1)) := by
  obtain ⟨a, b, c⟩ := Rel_low (x' := jS x 9 (jU (x 9) 1 (x 9 1 + 1))) (f' := jU f 170 (f 170 + 1)) hx h rfl rfl rfl rfl rfl (fun k _ _ => jU_ne (by omega))
  refine ⟨a, b, c, rCup_kept hx h.2.2.2.1 rfl rfl rfl (fun k _ _ => jU_ne (by omega)), rBox_kept hx h.2.2.2.2.1 rfl rfl (fun k _ _ => jU_ne (by omega)), ?_⟩
  obtain ⟨c1, c2, c3, c4, c5, c6⟩ := h.2.2.2.2.2
  unfold rCnt
  rw [jS_at, jU_at, jU_at, jU_ne (by omega), jU_ne (by omega), jU_ne (by omega), jU_ne (by omega), jU_ne (by omega), jU_ne (by omega), jU_ne (by omega), jU_ne (by omega), jU_ne (by omega), jU_ne (by omega), c1]
  exact ⟨rfl, c2, c3, c4, c5, c6⟩
theorem Rel_cup0 {x : Nat → Int → Int} {f : Int → Int} (h : Rel x f) : x 2 0 = f 37 ∧ x 3 0 = f 40 - 1 ∧ (1 ≤ x 2 0 → x 4 0 = f 38) ∧ (2 ≤ x 2 0 → x 4 1 = f 39) := by
  obtain ⟨a, b, c⟩ := h.2.2.2.1 0 (by omega) (by omega)
  refine ⟨a, b, fun q => c 0 (by omega) (by omega), fun q => c 1 (by omega) (by omega)⟩
theorem Rel_grade {x : Nat → Int → Int} {f : Int → Int} (hx : sOK x) (h : Rel x f) : Rel (sGrade x) (fGrade f (sGtc x)) := by
  have r2 : ∀ i, 0 ≤ x 2 i ∧ x 2 i ≤ 2 := hx 2
  have r20 := r2 0
  obtain ⟨q1, -, -, -⟩ := Rel_cup0 h
  by_cases c0 : x 2 0 = 0
  · have e1 : sGrade x = x := if_pos c0
    have e2 : fGrade f (sGtc x) = f := if_neg (by omega)
    rw [e1, e2]; exact h
  have e1 : sGrade x = jS (jS x 3 (jU (x 3) 0 (sGtc x))) 9 (if x 2 0 = 2 then jU (x 9) 4 (x 9 4 + 1) else x 9) := if_neg c0
  have e2 : fGrade f (sGtc x) = jU (jU f 173 (f 173 + (if f 37 = 2 then 1 else 0))) 40 (sGtc x + 1) := if_pos (by omega)
  have e9 : ∀ i, i ≠ 4 → sGrade x 9 i = x 9 i := fun i hi => by
    rw [e1, jS_at]
    split
    · exact jU_ne hi
    · rfl
  have e94 : sGrade x 9 4 = x 9 4 + (if f 37 = 2 then 1 else 0) := by
    rw [e1, jS_at]
    split
    · rw [jU_at, if_pos (by omega)]
    · rw [if_neg (by omega)]; omega
  have ef : ∀ k, k ≠ 173 → k ≠ 40 → fGrade f (sGtc x) k = f k := fun k h1 h2 => by rw [e2, jU_ne h2, jU_ne h1]
  have k0 := sGrade_ne x (k := 0) (by omega) (by omega)
  have k1 := sGrade_ne x (k := 1) (by omega) (by omega)
  have k2 := sGrade_ne x (k := 2) (by omega) (by omega)
  have k4 := sGrade_ne x (k := 4) (by omega) (by omega)
  have k5 := sGrade_ne x (k := 5) (by omega) (by omega)
  have k6 := sGrade_ne x (k := 6) (by omega) (by omega)
  have k7 := sGrade_ne x (k := 7) (by omega) (by omega)
  have k8 := sGrade_ne x (k := 8) (by omega) (by omega)
  obtain ⟨a, b, c⟩ := Rel_low hx h k7 k8 k0 k1 (e9 0 (by omega)) (fun k _ _ => ef k (by omega) (by omega))
  refine ⟨a, b, c, ?_, rBox_kept hx h.2.2.2.2.1 k5 k6 (fun k _ _ => ef k (by omega) (by omega)), ?_⟩
  · intro p h0 h1
    obtain ⟨u, v, w⟩ := h.2.2.2.1 p h0 h1
    have r2p := r2 p
    refine ⟨?_, ?_, fun j j0 j1 => ?_⟩
    · rw [k2, ef _ (by omega) (by omega)]; exact u
    · have e3 : sGrade x 3 = jU (x 3) 0 (sGtc x) := by rw [e1, jS_ne (by omega), jS_at]
      rw [e3]
      by_cases hp : p = 0
      · subst hp
        rw [jU_at, e2, show (37 + 4 * 0 + 3 : Int) = 40 from rfl, jU_at]
        omega
      · rw [jU_ne hp, ef _ (by omega) (by omega)]; exact v
    · rw [k2] at j1
      rw [k4, ef _ (by omega) (by omega)]; exact w j j0 j1
  · obtain ⟨c1, c2, c3, c4, c5, c6⟩ := h.2.2.2.2.2
    unfold rCnt
    rw [e9 1 (by omega), e9 2 (by omega), e9 3 (by omega), e94, e9 5 (by omega), e9 6 (by omega), ef 170 (by omega) (by omega), ef 171 (by omega) (by omega), ef 172 (by omega) (by omega), ef 174 (by omega) (by omega), ef 175 (by omega) (by omega), e2, jU_ne (by omega), jU_at, c4]
    exact ⟨c1, c2, c3, rfl, c5, c6⟩
theorem Rel_put {x : Nat → Int → Int} {f : Int → Int} {l t : Int} (hx : sOK x) (h : Rel x f) (hl : 0 ≤ l ∧ l ≤ 4) (hn : x 5 l < 512 ∧ (l < 4 → x 5 l < 20)) : Rel (sPut x l t) (fFalls f l t) := by
  have r5 : ∀ i, 0 ≤ x 5 i ∧ x 5 i ≤ 512 ∧ (i < 4 → x 5 i ≤ 20) := hx 5
  have r5l := r5 l
  obtain ⟨bl, bl2⟩ := h.2.2.2.2.1 l hl.1 hl.2
  have hb : 90 ≤ bxA l + f (85 + l) ∧ (bxA l + f (85 + l) < 170 ∨ 176 ≤ bxA l + f (85 + l)) := by unfold bxA; split <;> omega
  have ef : ∀ k, k ≠ 85 + l → k ≠ bxA l + f (85 + l) → fFalls f l t k = f k := fun k h1 h2 => by unfold fFalls; rw [jU_ne h1, jU_ne h2]
  have em : fFalls f l t (85 + l) = f (85 + l) + 1 := fFalls_many f hl (by omega)
  obtain ⟨a, b, c⟩ := Rel_low (x' := sPut x l t) (f' := fFalls f l t) hx h rfl rfl rfl rfl rfl (fun k _ _ => ef k (by omega) (by omega))
  refine ⟨a, b, c, rCup_kept hx h.2.2.2.1 rfl rfl rfl (fun k _ _ => ef k (by omega) (by omega)), ?_, ?_⟩
  · intro m h0 h1
    have r5m := r5 m
    obtain ⟨u, v⟩ := h.2.2.2.2.1 m h0 h1
    have e5 : sPut x l t 5 = jU (x 5) l (x 5 l + 1) := rfl
    have e6 : sPut x l t 6 = jU (x 6) (l * 20 + x 5 l) t := rfl
    rw [e5, e6]
    by_cases hm : m = l
    · subst hm
      rw [jU_at, em]
      refine ⟨by omega, fun j j0 j1 => ?_⟩
      by_cases hj : j = x 5 m
      · subst hj
        rw [jU_at]
        unfold fFalls
        rw [jU_ne (by omega), u, jU_at]
      · have hbj : bxA m + j ≠ 85 + m := by unfold bxA; split <;> omega
        rw [jU_ne (by omega), ef _ hbj (by omega)]
        exact v j j0 (by omega)
    · rw [jU_ne hm, ef _ (by omega) (by omega)]
      refine ⟨u, fun j j0 j1 => ?_⟩
      have g1 : m * 20 + j ≠ l * 20 + x 5 l := by omega
      have g2 : bxA m + j ≠ 85 + l := by unfold bxA; split <;> omega
      have g3 : bxA m + j ≠ bxA l + f (85 + l) := by unfold bxA; split <;> split <;> omega
      rw [jU_ne g1, ef _ g2 g3]
      exact v j j0 j1
  · obtain ⟨c1, c2, c3, c4, c5, c6⟩ := h.2.2.2.2.2
    have e9 : sPut x l t 9 = x 9 := rfl
    unfold rCnt
    rw [e9, ef 170 (by omega) (by omega), ef 171 (by omega) (by omega), ef 172 (by omega) (by omega), ef 173 (by omega) (by omega), ef 174 (by omega) (by omega), ef 175 (by omega) (by omega)]
    exact ⟨c1, c2, c3, c4, c5, c6⟩
theorem Rel_fo {x : Nat → Int → Int} {f : Int → Int} (hx : sOK x) (h : Rel x f) (h5 : x 5 4 + x 2 11 ≤ 512) : ∀ n : Nat, (n : Int) ≤ x 2 11 → Rel (sFo x n) (fFo f n) := by
  intro n
  induction n with
  | zero => intro _; exact h
  | succ n ih =>
    intro hn
    have okn := sOK_fo hx n (by omega)
    have e54 := (sFo_54 x n).1
    obtain ⟨-, -, w⟩ := h.2.2.2.1 11 (by omega) (by omega)
    have ew := w n (by omega) (by omega)
    show Rel (sPut (sFo x n) 4 (x 4 (2 * 11 + n))) (fFalls (fFo f n) 4 (f (81 + 1 + n)))
    rw [ew]
    exact Rel_put okn (ih (by omega)) (by omega) (by rw [e54]; omega)
theorem Rel_move {x : Nat → Int → Int} {f : Int → Int} (hx : sOK x) (h : Rel x f) : Rel (sMove x) (fSh f) := by
  have r2 : ∀ i, 0 ≤ x 2 i ∧ x 2 i ≤ 2 := hx 2
  have ef : ∀ k, (k < 37 ∨ 85 ≤ k) → fSh f k = f k := fun k hk => by unfold fSh; rw [if_neg (by omega), if_neg (by omega)]
  obtain ⟨a, b, c⟩ := Rel_low (x' := sMove x) (f' := fSh f) hx h rfl rfl rfl rfl rfl (fun k _ _ => ef k (by omega))
  refine ⟨a, b, c, ?_, rBox_kept hx h.2.2.2.2.1 rfl rfl (fun k _ _ => ef k (by omega)), ?_⟩
  · intro p h0 h1
    have e2 : sMove x 2 = bMv (x 2) 0 := rfl
    have e3 : sMove x 3 = bMv (x 3) (-1) := rfl
    have e4 : sMove x 4 = bMv2 (x 4) := rfl
    rw [e2, e3, e4]
    by_cases hp : p = 0
    · subst hp
      have z : ∀ k, 37 ≤ k → k ≤ 40 → fSh f k = 0 := fun k q1 q2 => by unfold fSh; rw [if_neg (by omega), if_pos (by omega)]
      have b0 : bMv (x 2) 0 0 = 0 := rfl
      have b1 : bMv (x 3) (-1) 0 = -1 := rfl
      rw [b0, b1, z _ (by omega) (by omega), z _ (by omega) (by omega)]
      exact ⟨rfl, by omega, fun j j0 j1 => absurd j1 (by omega)⟩
    · obtain ⟨u, v, w⟩ := h.2.2.2.1 (p - 1) (by omega) (by omega)
      have r2p := r2 (p - 1)
      have s : ∀ k, 41 ≤ k → k ≤ 84 → fSh f k = f (k - 4) := fun k q1 q2 => by unfold fSh; rw [if_pos (by omega)]
      have m : ∀ (g : Int → Int) (z : Int), bMv g z p = g (p - 1) := fun g z => by unfold bMv; rw [if_neg hp, if_pos (by omega)]
      rw [m, m, s _ (by omega) (by omega), s _ (by omega) (by omega)]
      refine ⟨by rw [u]; congr 1; omega, by rw [v]; congr 2; omega, fun j j0 j1 => ?_⟩
      have m2 : bMv2 (x 4) (2 * p + j) = x 4 (2 * (p - 1) + j) := by
        unfold bMv2
        rw [if_pos (by omega)]
        congr 1
        omega
      rw [m2, s _ (by omega) (by omega), w j j0 j1]
      congr 1
      omega
  · obtain ⟨c1, c2, c3, c4, c5, c6⟩ := h.2.2.2.2.2
    have e9 : sMove x 9 = x 9 := rfl
    unfold rCnt
    rw [e9, ef 170 (by omega), ef 171 (by omega), ef 172 (by omega), ef 173 (by omega), ef 174 (by omega), ef 175 (by omega)]
    exact ⟨c1, c2, c3, c4, c5, c6⟩
theorem Rel_clear {x : Nat → Int → Int} {f : Int → Int} {p : Int} (hx : sOK x) (h : Rel x f) (hp : 0 ≤ p ∧ p < 12) : Rel (sClear x p) (fZ f (37 + 4 * p) 4) := by
  have r2 : ∀ i, 0 ≤ x 2 i ∧ x 2 i ≤ 2 := hx 2
  have ef : ∀ k, (k < 37 + 4 * p ∨ 37 + 4 * p + 4 ≤ k) → fZ f (37 + 4 * p) 4 k = f k := fun k hk => by unfold fZ; rw [if_neg (by omega)]
  obtain ⟨a, b, c⟩ := Rel_low (x' := sClear x p) (f' := fZ f (37 + 4 * p) 4) hx h rfl rfl rfl rfl rfl (fun k _ _ => ef k (by omega))
  refine ⟨a, b, c, ?_, rBox_kept hx h.2.2.2.2.1 rfl rfl (fun k _ _ => ef k (by omega)), ?_⟩
  · intro q h0 h1
    have e2 : sClear x p 2 = jU (x 2) p 0 := rfl
    have e3 : sClear x p 3 = jU (x 3) p (-1) := rfl
    have e4 : sClear x p 4 = x 4 := rfl
    rw [e2, e3, e4]
    by_cases hq : q = p
    · subst hq
      have z : ∀ k, 37 + 4 * q ≤ k → k < 37 + 4 * q + 4 → fZ f (37 + 4 * q) 4 k = 0 := fun k q1 q2 => by unfold fZ; rw [if_pos (by omega)]
      rw [jU_at, jU_at, z _ (by omega) (by omega), z _ (by omega) (by omega)]
      exact ⟨rfl, by omega, fun j j0 j1 => absurd j1 (by omega)⟩
    · obtain ⟨u, v, w⟩ := h.2.2.2.1 q h0 h1
      have r2q := r2 q
      rw [jU_ne hq, jU_ne hq, ef _ (by omega), ef _ (by omega)]
      refine ⟨u, v, fun j j0 j1 => ?_⟩
      rw [ef _ (by omega)]
      exact w j j0 j1
  · obtain ⟨c1, c2, c3, c4, c5, c6⟩ := h.2.2.2.2.2
    have e9 : sClear x p 9 = x 9 := rfl
    unfold rCnt
    rw [e9, ef 170 (by omega), ef 171 (by omega), ef 172 (by omega), ef 173 (by omega), ef 174 (by omega), ef 175 (by omega)]
    exact ⟨c1, c2, c3, c4, c5, c6⟩
/-- a counter moved on both sides -/
theorem Rel_cnt {x : Nat → Int → Int} {f : Int → Int} (i z : Int) (hx : sOK x) (h : Rel x f) (hi : 1 ≤ i ∧ i ≤ 6) : Rel (jS x 9 (jU (x 9) i z)) (jU f (169 + i) z) := by
  obtain ⟨a, b, c⟩ := Rel_low (x' := jS x 9 (jU (x 9) i z)) (f' := jU f (169 + i) z) hx h rfl rfl rfl rfl (by rw [jS_at, jU_ne (by omega)]) (fun k _ _ => jU_ne (by omega))
  refine ⟨a, b, c, rCup_kept hx h.2.2.2.1 rfl rfl rfl (fun k _ _ => jU_ne (by omega)), rBox_kept hx h.2.2.2.2.1 rfl rfl (fun k _ _ => jU_ne (by omega)), ?_⟩
  obtain ⟨c1, c2, c3, c4, c5, c6⟩ := h.2.2.2.2.2
  have key : ∀ j, x 9 j = f (169 + j) → jU (x 9) i z j = jU f (169 + i) z (169 + j) := fun j hj => by
    unfold jU
    by_cases q : j = i
    · rw [if_pos q, if_pos (by omega)]
    · rw [if_neg q, if_neg (by omega)]; exact hj
  unfold rCnt
  rw [jS_at]
  exact ⟨key 1 c1, key 2 c2, key 3 c3, key 4 c4, key 5 c5, key 6 c6⟩
theorem Rel_full {x : Nat → Int → Int} {f : Int → Int} {p : Int} (hx : sOK x) (h : Rel x f) (hp : 0 ≤ p ∧ p < 12) : Rel (jS x 3 (jU (x 3) p 4)) (jU f (37 + 4 * p + 3) 5) := by
  have r2 : ∀ i, 0 ≤ x 2 i ∧ x 2 i ≤ 2 := hx 2
  obtain ⟨a, b, c⟩ := Rel_low (x' := jS x 3 (jU (x 3) p 4)) (f' := jU f (37 + 4 * p + 3) 5) hx h rfl rfl rfl rfl rfl (fun k _ _ => jU_ne (by omega))
  refine ⟨a, b, c, ?_, rBox_kept hx h.2.2.2.2.1 rfl rfl (fun k _ _ => jU_ne (by omega)), ?_⟩
  · intro q h0 h1
    obtain ⟨u, v, w⟩ := h.2.2.2.1 q h0 h1
    have r2q := r2 q
    have e2 : jS x 3 (jU (x 3) p 4) 2 = x 2 := rfl
    have e4 : jS x 3 (jU (x 3) p 4) 4 = x 4 := rfl
    rw [e2, e4, jS_at]
    refine ⟨by rw [jU_ne (by omega)]; exact u, ?_, fun j j0 j1 => by rw [jU_ne (by omega)]; exact w j j0 j1⟩
    by_cases hq : q = p
    · subst hq; rw [jU_at, jU_at]; rfl
    · rw [jU_ne hq, jU_ne (by omega)]; exact v
  · obtain ⟨c1, c2, c3, c4, c5, c6⟩ := h.2.2.2.2.2
    have e9 : jS x 3 (jU (x 3) p 4) 9 = x 9 := rfl
    unfold rCnt
    rw [e9, jU_ne (by omega), jU_ne (by omega), jU_ne (by omega), jU_ne (by omega), jU_ne (by omega), jU_ne (by omega)]
    exact ⟨c1, c2, c3, c4, c5, c6⟩
theorem Rel_drop {x : Nat → Int → Int} {f : Int → Int} {l : Int} (hx : sOK x) (hg : sGr x) (h : Rel x f) (hl : 0 ≤ l ∧ l < 4) : Rel (sDrX x l) (fDr f l (f 3 / 2 ^ l.toNat % 2)) ∧ sDrN x l = (if f (37 + 4 * (2 + 2 * l) + 3) = l + 1 then (if f 2 ≤ f (85 + l) then 0 else 1) else 0) := by
  have r2 : ∀ i, 0 ≤ x 2 i ∧ x 2 i ≤ 2 := hx 2
  have r4 : ∀ i, 0 ≤ x 4 i ∧ x 4 i < 404000 := hx 4
  have r5 : ∀ i, 0 ≤ x 5 i ∧ x 5 i ≤ 512 ∧ (i < 4 → x 5 i ≤ 20) := hx 5
  have r7 : (-20 ≤ x 7 0 ∧ x 7 0 ≤ 20) ∧ (0 ≤ x 7 1 ∧ x 7 1 ≤ 9) ∧ (1 ≤ x 7 2 ∧ x 7 2 ≤ 20) := hx 7
  obtain ⟨u, v, w⟩ := h.2.2.2.1 (2 + 2 * l) (by omega) (by omega)
  obtain ⟨b1, -⟩ := h.2.2.2.2.1 l (by omega) (by omega)
  have s2 : x 7 2 = f 2 := h.1.2.2
  have wl := rWat_at h.2.1 hl
  have r5l := r5 l
  by_cases c1 : x 3 (2 + 2 * l) = l
  · have c1' : f (37 + 4 * (2 + 2 * l) + 3) = l + 1 := by omega
    have ge1 := hg.2 (2 + 2 * l) (by omega)
    have wa := w 0 (by omega) (by omega)
    rw [Int.add_zero, Int.add_zero] at wa
    by_cases c2 : x 7 2 ≤ x 5 l
    · have e1 : sDrX x l = jS (jS x 3 (jU (x 3) (2 + 2 * l) 4)) 9 (jU (x 9) 3 (x 9 3 + 1)) := by unfold sDrX; rw [if_pos c1, if_pos c2]
      have e2 : fDr f l (f 3 / 2 ^ l.toNat % 2) = jU (jU f (37 + 4 * (2 + 2 * l) + 3) 5) 172 (f 172 + 1) := by unfold fDr; rw [if_pos c1', if_pos (by omega)]
      rw [e1, e2, if_pos c1', if_pos (by omega)]
      refine ⟨?_, by unfold sDrN; rw [if_pos c1, if_pos c2]⟩
      have hk := Rel_full (p := 2 + 2 * l) hx h (by omega)
      have okk : sOK (jS x 3 (jU (x 3) (2 + 2 * l) 4)) := sOK_S hx (jU_all (P := fun z => -1 ≤ z ∧ z ≤ 4) (hx 3) (by omega))
      have hk2 := Rel_cnt 3 (x 9 3 + 1) okk hk (by omega)
      have c3 : x 9 3 = f 172 := h.2.2.2.2.2.2.2.1
      rw [← c3]
      exact hk2
    · rw [if_pos c1', if_neg (by omega)]
      refine ⟨?_, by unfold sDrN; rw [if_pos c1, if_neg c2]⟩
      by_cases c3 : x 8 l = 0 ∧ tB (x 4 (2 * (2 + 2 * l))) < 9
      · have e1 : sDrX x l = sClear (sPut (jS x 9 (jU (x 9) 5 (x 9 5 + 1))) l (sHurtT (x 4 (2 * (2 + 2 * l))))) (2 + 2 * l) := by unfold sDrX; rw [if_pos c1, if_neg c2, if_pos c3]
        have e2 : fDr f l (f 3 / 2 ^ l.toNat % 2) = fZ (fFalls (jU f 174 (f 174 + 1)) l (f (37 + 4 * (2 + 2 * l) + 1) + 1)) (37 + 4 * (2 + 2 * l)) 4 := by unfold fDr; rw [if_pos c1', if_neg (by omega), if_pos ⟨by omega, by rw [← wa]; exact c3.2⟩]
        have c5 : x 9 5 = f 174 := h.2.2.2.2.2.2.2.2.2.1
        rw [e1, e2, ← c5, ← wa, (sHurtT_rng (r4 _) c3.2).1]
        have ok1 : sOK (jS x 9 (jU (x 9) 5 (x 9 5 + 1))) := sOK_9 hx (by omega)
        have h1 := Rel_cnt 5 (x 9 5 + 1) hx h (by omega)
        have ht := sHurtT_rng (r4 (2 * (2 + 2 * l))) c3.2
        have rr := r4 (2 * (2 + 2 * l))
        have hn : x 5 l < 512 ∧ (l < 4 → x 5 l < 20) := by omega
        exact Rel_clear (sOK_put ok1 hn (by omega)) (Rel_put ok1 h1 (by omega) hn) (by omega)
      · have e1 : sDrX x l = sClear (sPut x l (x 4 (2 * (2 + 2 * l)))) (2 + 2 * l) := by unfold sDrX; rw [if_pos c1, if_neg c2, if_neg c3]
        have e2 : fDr f l (f 3 / 2 ^ l.toNat % 2) = fZ (fFalls (jU f 174 (f 174 + 0)) l (f (37 + 4 * (2 + 2 * l) + 1))) (37 + 4 * (2 + 2 * l)) 4 := by unfold fDr; rw [if_pos c1', if_neg (by omega), if_neg (by rw [← wa, ← wl]; exact c3)]
        have e3 : jU f 174 (f 174 + 0) = f := by
          funext k
          unfold jU
          split
          · subst_vars; omega
          · rfl
        rw [e1, e2, e3, ← wa]
        have hn : x 5 l < 512 ∧ (l < 4 → x 5 l < 20) := by omega
        exact Rel_clear (sOK_put hx hn (r4 _)) (Rel_put hx h (by omega) hn) (by omega)
  · have e1 : sDrX x l = x := if_neg c1
    have e2 : fDr f l (f 3 / 2 ^ l.toNat % 2) = f := if_neg (by omega)
    rw [e1, e2, if_neg (by omega)]
    exact ⟨h, if_neg c1⟩
theorem sGtc_9 (x : Nat → Int → Int) (z : Int) : sGtc (jS x 9 (jU (x 9) 1 z)) = sGtc x := rfl
theorem Rel_t3 {x : Nat → Int → Int} {f : Int → Int} {N : Int} (hi : sInv x N) (hN : N ≤ 512) (h : Rel x f) : Rel (sT3 x) (fT3 f (sGtc x)) ∧ fGrade (jU f 170 (f 170 + 1)) (sGtc x) 81 = x 2 11 := by
  have hx := hi.1
  have ok1 : sOK (jS x 9 (jU (x 9) 1 (x 9 1 + 1))) := sOK_9 hx (by omega)
  have h1 := Rel_tick1 hx h
  have ok2 := sOK_grade ok1
  have h2 := Rel_grade ok1 h1
  rw [sGtc_9] at h2
  have e2 : sGrade (jS x 9 (jU (x 9) 1 (x 9 1 + 1))) 2 = x 2 := sGrade_2 _
  have e5 : sGrade (jS x 9 (jU (x 9) 1 (x 9 1 + 1))) 5 = x 5 := sGrade_ne _ (by omega) (by omega)
  have h11 := sInv_11 hi hN
  have e81 : sGrade (jS x 9 (jU (x 9) 1 (x 9 1 + 1))) 2 11 = fGrade (jU f 170 (f 170 + 1)) (sGtc x) 81 := (h2.2.2.2.1 11 (by omega) (by omega)).1
  have r2 : ∀ i, 0 ≤ x 2 i ∧ x 2 i ≤ 2 := hx 2
  have r211 := r2 11
  refine ⟨?_, by rw [← e81, e2]⟩
  have h3 := Rel_fo ok2 h2 (by rw [e2, e5]; exact h11) (sGrade (jS x 9 (jU (x 9) 1 (x 9 1 + 1))) 2 11).toNat (by rw [e2]; omega)
  have ok3 := sOK_fo ok2 (sGrade (jS x 9 (jU (x 9) 1 (x 9 1 + 1))) 2 11).toNat (by rw [e2, e5]; omega)
  have h4 := Rel_move ok3 h3
  unfold sT3 fT3
  rw [← e81]
  exact h4
def fTick (x : Nat → Int → Int) (f : Int → Int) : Int → Int := fDs (fT3 f (sGtc x)) 4
theorem Rel_ds {x : Nat → Int → Int} {f : Int → Int} {N : Int} (hi : sInv x N) (hN : N ≤ 512) (h : Rel x f) : ∀ n : Nat, n ≤ 4 → Rel (sDs x n).1 (fDs f n) ∧ sInv (sDs x n).1 N := by
  intro n
  induction n with
  | zero => intro _; exact ⟨h, hi⟩
  | succ n ih =>
    intro hn
    obtain ⟨h1, h2⟩ := ih (by omega)
    exact ⟨(Rel_drop h2.1 h2.2.1 h1 (by omega)).1, sDrX_inv n (by omega) h2⟩
theorem Rel_tick {x : Nat → Int → Int} {f : Int → Int} {N : Int} (hi : sInv x N) (hN : N ≤ 512) (h : Rel x f) : Rel (sTick x) (fTick x f) := (Rel_ds (sT3_inv hi hN) hN (Rel_t3 hi hN h).1 4 (by omega)).1
