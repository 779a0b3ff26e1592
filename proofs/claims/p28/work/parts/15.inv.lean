/-! what stays true from tick to tick -/
def sGr (x : Nat → Int → Int) : Prop := x 3 0 = -1 ∧ ∀ p, 0 ≤ x 3 p → 1 ≤ x 2 p
def sInv (x : Nat → Int → Int) (N : Int) : Prop := sOK x ∧ sGr x ∧ sTot x ≤ N
theorem jSum_congr {f g : Int → Int} : ∀ n : Nat, (∀ i : Nat, i < n → f i = g i) → jSum f n = jSum g n := by
  intro n
  induction n with
  | zero => intro _; rfl
  | succ n ih =>
    intro h
    unfold jSum
    rw [ih (fun i hi => h i (by omega)), h n (by omega)]
theorem jSum_jU {g : Int → Int} {z : Int} (k : Nat) : ∀ n : Nat, (k < n → jSum (jU g k z) n = jSum g n - g k + z) ∧ (n ≤ k → jSum (jU g k z) n = jSum g n) := by
  intro n
  induction n with
  | zero => exact ⟨fun h => absurd h (by omega), fun _ => rfl⟩
  | succ n ih =>
    refine ⟨fun h => ?_, fun h => ?_⟩
    · unfold jSum
      by_cases q : k = n
      · subst q
        rw [ih.2 (Nat.le_refl _), jU_at]
        omega
      · rw [ih.1 (by omega), jU_ne (by omega)]
        omega
    · unfold jSum
      rw [ih.2 (by omega), jU_ne (by omega)]
theorem jSum_bMv (g : Int → Int) : jSum (bMv g 0) 12 = jSum g 12 - g 11 := by
  have h0 : bMv g 0 0 = 0 := rfl
  have h : ∀ i : Int, 1 ≤ i ∧ i ≤ 11 → bMv g 0 i = g (i - 1) := fun i hi => by
    unfold bMv; rw [if_neg (by omega), if_pos hi]
  show ((((((((((((0 + bMv g 0 0) + bMv g 0 1) + bMv g 0 2) + bMv g 0 3) + bMv g 0 4) + bMv g 0 5) + bMv g 0 6) + bMv g 0 7) + bMv g 0 8) + bMv g 0 9) + bMv g 0 10) + bMv g 0 11) = ((((((((((((0 + g 0) + g 1) + g 2) + g 3) + g 4) + g 5) + g 6) + g 7) + g 8) + g 9) + g 10) + g 11) - g 11
  rw [h0, h 1 (by omega), h 2 (by omega), h 3 (by omega), h 4 (by omega), h 5 (by omega), h 6 (by omega), h 7 (by omega), h 8 (by omega), h 9 (by omega), h 10 (by omega), h 11 (by omega)]
  show 0 + 0 + g 0 + g 1 + g 2 + g 3 + g 4 + g 5 + g 6 + g 7 + g 8 + g 9 + g 10 = _
  omega
theorem sFo_5sum (x : Nat → Int → Int) (n : Nat) : jSum (sFo x n 5) 5 = jSum (x 5) 5 + n := by
  have h := sFo_54 x n
  have e : jSum (sFo x n 5) 5 = jSum (jU (x 5) ((4 : Nat) : Int) (x 5 4 + n)) 5 := by
    refine jSum_congr 5 fun i hi => ?_
    by_cases q : i = 4
    · subst q
      rw [jU_at]
      exact h.1
    · rw [jU_ne (by omega)]
      exact h.2 i (by omega)
  rw [e, (jSum_jU 4 5).1 (by omega)]
  show jSum (x 5) 5 - x 5 4 + (x 5 4 + n) = _
  omega
theorem sT3_rows (x : Nat → Int → Int) : sT3 x 2 = bMv (x 2) 0 ∧ sT3 x 3 = bMv (sGrade (jS x 9 (jU (x 9) 1 (x 9 1 + 1))) 3) (-1) ∧ sT3 x 5 = sFo (sGrade (jS x 9 (jU (x 9) 1 (x 9 1 + 1)))) (x 2 11).toNat 5 := by
  have e2 : sGrade (jS x 9 (jU (x 9) 1 (x 9 1 + 1))) 2 = x 2 := sGrade_2 _
  refine ⟨?_, ?_, ?_⟩
  · unfold sT3 sMove
    rw [jS_ne (by omega), jS_ne (by omega), jS_at, sFo_ne _ (by omega) (by omega), e2]
  · unfold sT3 sMove
    rw [jS_ne (by omega), jS_at, sFo_ne _ (by omega) (by omega)]
  · unfold sT3 sMove
    rw [jS_ne (by omega), jS_ne (by omega), jS_ne (by omega), e2]
theorem sT3_inv {x : Nat → Int → Int} {N : Int} (h : sInv x N) (hN : N ≤ 512) : sInv (sT3 x) N := by
  obtain ⟨hx, hg, ht⟩ := h
  have h2 : ∀ i, 0 ≤ x 2 i ∧ x 2 i ≤ 2 := hx 2
  obtain ⟨q2, q3, q5⟩ := sT3_rows x
  refine ⟨sOK_t3 hx (sTot_11 hx (by omega)), ?_, ?_⟩
  · unfold sGr
    rw [q2, q3]
    refine ⟨rfl, fun p hp => ?_⟩
    have key : ∀ p, 0 ≤ sGrade (jS x 9 (jU (x 9) 1 (x 9 1 + 1))) 3 p → 1 ≤ x 2 p := by
      intro p
      unfold sGrade
      by_cases z : jS x 9 (jU (x 9) 1 (x 9 1 + 1)) 2 0 = 0
      · rw [if_pos z]; exact hg.2 p
      · rw [if_neg z, jS_ne (by omega), jS_at]
        have z' : ¬ x 2 0 = 0 := z
        by_cases w : p = 0
        · subst w
          intro _
          have := h2 0
          omega
        · rw [jU_ne w]; exact hg.2 p
    unfold bMv at hp ⊢
    by_cases w : p = 0
    · rw [if_pos w] at hp; omega
    · rw [if_neg w] at hp ⊢
      by_cases w2 : 1 ≤ p ∧ p ≤ 11
      · rw [if_pos w2] at hp ⊢; exact key _ hp
      · rw [if_neg w2] at hp ⊢; exact key _ hp
  · unfold sTot at ht ⊢
    rw [q2, q5, jSum_bMv, sFo_5sum, sGrade_ne _ (by omega) (by omega)]
    have e5 : jS x 9 (jU (x 9) 1 (x 9 1 + 1)) 5 = x 5 := rfl
    rw [e5]
    have := h2 11
    omega
theorem sDrX_inv {x : Nat → Int → Int} {N : Int} (l : Nat) (hl : l < 4) (h : sInv x N) : sInv (sDrX x l) N := by
  obtain ⟨hx, hg, ht⟩ := h
  refine ⟨sOK_drop hx (by omega), ?_⟩
  unfold sDrX
  by_cases c1 : x 3 (2 + 2 * (l : Int)) = l
  · rw [if_pos c1]
    have g1 := hg.2 (2 + 2 * (l : Int)) (by omega)
    by_cases c2 : x 7 2 ≤ x 5 l
    · rw [if_pos c2]
      refine ⟨⟨?_, fun p => ?_⟩, ht⟩
      · show jU (x 3) (2 + 2 * (l : Int)) 4 0 = -1
        rw [jU_ne (by omega)]; exact hg.1
      · show 0 ≤ jU (x 3) (2 + 2 * (l : Int)) 4 p → 1 ≤ x 2 p
        by_cases w : p = 2 + 2 * (l : Int)
        · subst w; intro _; exact g1
        · rw [jU_ne w]; exact hg.2 p
    · rw [if_neg c2]
      have fin : ∀ y : Nat → Int → Int, y 2 = x 2 → y 3 = x 3 → y 5 = x 5 → ∀ t, sGr (sClear (sPut y l t) (2 + 2 * (l : Int))) ∧ sTot (sClear (sPut y l t) (2 + 2 * (l : Int))) ≤ N := by
        intro y e2 e3 e5 t
        refine ⟨⟨?_, fun p => ?_⟩, ?_⟩
        · show jU (y 3) (2 + 2 * (l : Int)) (-1) 0 = -1
          rw [jU_ne (by omega), e3]; exact hg.1
        · show 0 ≤ jU (y 3) (2 + 2 * (l : Int)) (-1) p → 1 ≤ jU (y 2) (2 + 2 * (l : Int)) 0 p
          by_cases w : p = 2 + 2 * (l : Int)
          · subst w; rw [jU_at]; intro q; omega
          · rw [jU_ne w, jU_ne w, e2, e3]; exact hg.2 p
        · show jSum (jU (y 5) l (y 5 l + 1)) 5 + jSum (jU (y 2) (2 + 2 * (l : Int)) 0) 12 ≤ N
          have a := (jSum_jU (g := y 5) (z := y 5 l + 1) l 5).1 (by omega)
          have b := (jSum_jU (g := y 2) (z := 0) (2 + 2 * l) 12).1 (by omega)
          have e : ((2 + 2 * l : Nat) : Int) = 2 + 2 * (l : Int) := by omega
          rw [e] at b
          rw [a, b, e2, e5]
          unfold sTot at ht
          omega
      by_cases c3 : x 8 l = 0 ∧ tB (x 4 (2 * (2 + 2 * (l : Int)))) < 9
      · rw [if_pos c3]; exact fin _ rfl rfl rfl _
      · rw [if_neg c3]; exact fin x rfl rfl rfl _
  · rw [if_neg c1]; exact ⟨hg, ht⟩
theorem sInv_tick {x : Nat → Int → Int} {N : Int} (h : sInv x N) (hN : N ≤ 512) : sInv (sTick x) N := by
  have key : ∀ n : Nat, n ≤ 4 → sInv (sDs (sT3 x) n).1 N := by
    intro n
    induction n with
    | zero => intro _; exact sT3_inv h hN
    | succ n ih => intro hn; exact sDrX_inv n (by omega) (ih (by omega))
  exact key 4 (by omega)
theorem sInv_11 {x : Nat → Int → Int} {N : Int} (h : sInv x N) (hN : N ≤ 512) : x 5 4 + x 2 11 ≤ 512 := sTot_11 h.1 (by have := h.2.2; omega)
def sPass (x : Nat → Int → Int) : Nat → (Nat → Int → Int) × Int
  | 0 => (x, 0)
  | n + 1 => (sTick (sPass x n).1, (sPass x n).2 + sTickN (sPass x n).1)
theorem sInv_pass {x : Nat → Int → Int} {N : Int} (h : sInv x N) (hN : N ≤ 512) : ∀ n : Nat, sInv (sPass x n).1 N := by
  intro n
  induction n with
  | zero => exact h
  | succ n ih => exact sInv_tick ih hN
theorem sInv_lay {x : Nat → Int → Int} {N t : Int} (h : sInv x N) (h2 : x 2 0 < 2) (ht : 0 ≤ t ∧ t < 404000) : sInv (sLay x t) (N + 1) := by
  obtain ⟨hx, hg, hs⟩ := h
  have r2 : ∀ i, 0 ≤ x 2 i ∧ x 2 i ≤ 2 := hx 2
  have r20 := r2 0
  refine ⟨?_, ⟨hg.1, fun p => ?_⟩, ?_⟩
  · unfold sLay
    refine sOK_S (sOK_S (sOK_S hx (jU_all (P := fun z => 0 ≤ z ∧ z ≤ 2) (hx 2) (by omega))) (jU_all (P := fun z => 0 ≤ z ∧ z < 404000) (hx 4) ht)) ?_
    show 0 ≤ jU (x 9) 2 (x 9 2 + 1) 0 ∧ jU (x 9) 2 (x 9 2 + 1) 0 ≤ 8
    rw [jU_ne (by omega)]
    exact hx 9
  · show 0 ≤ x 3 p → 1 ≤ jU (x 2) 0 (x 2 0 + 1) p
    by_cases w : p = 0
    · subst w; rw [jU_at]; intro _; omega
    · rw [jU_ne w]; exact hg.2 p
  · show jSum (x 5) 5 + jSum (jU (x 2) ((0 : Nat) : Int) (x 2 0 + 1)) 12 ≤ N + 1
    rw [(jSum_jU 0 12).1 (by omega)]
    unfold sTot at hs
    show jSum (x 5) 5 + (jSum (x 2) 12 - x 2 0 + (x 2 0 + 1)) ≤ N + 1
    omega
theorem sInv_cp {x y : Nat → Int → Int} {N : Int} (hy : sInv y N) (hx : sOK x) : sInv (sCp y x) N := by
  obtain ⟨h1, h2, h3⟩ := hy
  refine ⟨sOK_S h1 ?_, h2, h3⟩
  show ∀ i, 0 ≤ jCp (y 6) (x 6) 0 0 (80 + y 5 4) i ∧ jCp (y 6) (x 6) 0 0 (80 + y 5 4) i < 404000
  intro i
  unfold jCp
  split
  · exact h1 6 _
  · exact hx 6 _
theorem sOK_cp {x y : Nat → Int → Int} (hy : sOK y) (hx : sOK x) : sOK (sCp y x) := by
  refine sOK_S hy ?_
  show ∀ i, 0 ≤ jCp (y 6) (x 6) 0 0 (80 + y 5 4) i ∧ jCp (y 6) (x 6) 0 0 (80 + y 5 4) i < 404000
  intro i
  unfold jCp
  split
  · exact hy 6 _
  · exact hx 6 _
/-! the class, whole: its states now, snapshot, trial (S), the past ones (H), the pad's rows (P), the single numbers (v): saved, oldest, size, length, position, parts, number, traits -/
abbrev cSt : Type := (Nat → Nat → Int → Int) × (Nat → Nat → Int → Int) × (Nat → Int → Int) × (Int → Int)
