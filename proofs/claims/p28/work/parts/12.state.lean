/-! a State by its rows -/
def sR (k : Nat) (g : Int → Int) : Prop := match k with
  | 0 => ∀ i, 0 ≤ g i ∧ g i < 404000
  | 1 => ∀ i, 0 ≤ g i ∧ g i ≤ 3
  | 2 => ∀ i, 0 ≤ g i ∧ g i ≤ 2
  | 3 => ∀ i, -1 ≤ g i ∧ g i ≤ 4
  | 4 => ∀ i, 0 ≤ g i ∧ g i < 404000
  | 5 => ∀ i, 0 ≤ g i ∧ g i ≤ 512 ∧ (i < 4 → g i ≤ 20)
  | 6 => ∀ i, 0 ≤ g i ∧ g i < 404000
  | 7 => (-20 ≤ g 0 ∧ g 0 ≤ 20) ∧ (0 ≤ g 1 ∧ g 1 ≤ 9) ∧ (1 ≤ g 2 ∧ g 2 ≤ 20)
  | 8 => ∀ i, g i = 0 ∨ g i = 1
  | 9 => 0 ≤ g 0 ∧ g 0 ≤ 8
  | _ => True
def sOK (x : Nat → Int → Int) : Prop := ∀ k, sR k (x k)
theorem sOK_S {x : Nat → Int → Int} {k : Nat} {g : Int → Int} (hx : sOK x) (hg : sR k g) : sOK (jS x k g) := by
  intro i
  by_cases h : i = k
  · subst h; rw [jS_at]; exact hg
  · rw [jS_ne h]; exact hx i
theorem jU_all {P : Int → Prop} {g : Int → Int} {i z : Int} (hg : ∀ j, P (g j)) (hz : P z) : ∀ j, P (jU g i z j) := by
  intro j
  unfold jU
  split
  · exact hz
  · exact hg j
def sLn (x : Nat → Int → Int) (t : Int) : Int := lnF (x 0) (x 1) t (x 9 0).toNat 0
def sSee (x : Nat → Int → Int) (t : Int) : Int := tOf (tW t) (jMax 0 (jMin 100 (tR t + x 7 0))) (if x 7 1 ≤ tB t then tB t else 0)
theorem sSee_rng {x : Nat → Int → Int} {t : Int} (hx : sOK x) (ht : 0 ≤ t ∧ t < 404000) : 0 ≤ sSee x t ∧ sSee x t < 500000 := by
  have h7 : (-20 ≤ x 7 0 ∧ x 7 0 ≤ 20) ∧ (0 ≤ x 7 1 ∧ x 7 1 ≤ 9) ∧ (1 ≤ x 7 2 ∧ x 7 2 ≤ 20) := hx 7
  have h1 := tR_rng t
  have h2 := tB_rng t
  have h3 : 0 ≤ tW t ∧ tW t ≤ 399 := by unfold tW; omega
  have h4 : 0 ≤ jMax 0 (jMin 100 (tR t + x 7 0)) ∧ jMax 0 (jMin 100 (tR t + x 7 0)) ≤ 100 := by unfold jMax jMin; split <;> split <;> omega
  have h5 : 0 ≤ (if x 7 1 ≤ tB t then tB t else 0) ∧ (if x 7 1 ≤ tB t then tB t else 0) ≤ 9 := by split <;> omega
  unfold sSee tOf
  omega
theorem sLn_rng {x : Nat → Int → Int} (hx : sOK x) (t : Int) : 0 ≤ sLn x t ∧ sLn x t ≤ 4 := lnF_rng (hx 1) _ _
def sGtc (x : Nat → Int → Int) : Int := if x 2 0 = 1 then sLn x (sSee x (x 4 0)) else 4
theorem sGtc_rng {x : Nat → Int → Int} (hx : sOK x) : 0 ≤ sGtc x ∧ sGtc x ≤ 4 := by
  unfold sGtc
  split
  · exact sLn_rng hx _
  · omega
def sGrade (x : Nat → Int → Int) : Nat → Int → Int := if x 2 0 = 0 then x else jS (jS x 3 (jU (x 3) 0 (sGtc x))) 9 (if x 2 0 = 2 then jU (x 9) 4 (x 9 4 + 1) else x 9)
def sPut (x : Nat → Int → Int) (l t : Int) : Nat → Int → Int := jS (jS x 6 (jU (x 6) (l * 20 + x 5 l) t)) 5 (jU (x 5) l (x 5 l + 1))
def sFo (x : Nat → Int → Int) : Nat → Nat → Int → Int
  | 0 => x
  | n + 1 => sPut (sFo x n) 4 (x 4 (2 * 11 + n))
def sMove (x : Nat → Int → Int) : Nat → Int → Int := jS (jS (jS x 2 (bMv (x 2) 0)) 3 (bMv (x 3) (-1))) 4 (bMv2 (x 4))
def sHurt (x : Nat → Int → Int) (l : Int) : Prop := x 8 l = 0 ∧ tB (x 4 (2 * (2 + 2 * l))) < 9
def sHurtT (t : Int) : Int := tOf (tW t) (tR t) (tB t + 1)
def sClear (x : Nat → Int → Int) (p : Int) : Nat → Int → Int := jS (jS x 2 (jU (x 2) p 0)) 3 (jU (x 3) p (-1))
def sDrX (x : Nat → Int → Int) (l : Int) : Nat → Int → Int := if x 3 (2 + 2 * l) = l then (if x 7 2 ≤ x 5 l then jS (jS x 3 (jU (x 3) (2 + 2 * l) 4)) 9 (jU (x 9) 3 (x 9 3 + 1)) else if x 8 l = 0 ∧ tB (x 4 (2 * (2 + 2 * l))) < 9 then sClear (sPut (jS x 9 (jU (x 9) 5 (x 9 5 + 1))) l (sHurtT (x 4 (2 * (2 + 2 * l))))) (2 + 2 * l) else sClear (sPut x l (x 4 (2 * (2 + 2 * l)))) (2 + 2 * l)) else x
def sDrN (x : Nat → Int → Int) (l : Int) : Int := if x 3 (2 + 2 * l) = l then (if x 7 2 ≤ x 5 l then 0 else 1) else 0
def sDs (x : Nat → Int → Int) : Nat → (Nat → Int → Int) × Int
  | 0 => (x, 0)
  | n + 1 => (sDrX (sDs x n).1 n, (sDs x n).2 + sDrN (sDs x n).1 n)
/-- a tick, ahead of the drops -/
def sT3 (x : Nat → Int → Int) : Nat → Int → Int := sMove (sFo (sGrade (jS x 9 (jU (x 9) 1 (x 9 1 + 1)))) (sGrade (jS x 9 (jU (x 9) 1 (x 9 1 + 1))) 2 11).toNat)
def sTick (x : Nat → Int → Int) : Nat → Int → Int := (sDs (sT3 x) 4).1
def sTickN (x : Nat → Int → Int) : Int := x 2 11 + (sDs (sT3 x) 4).2
def sWr (x : Nat → Int → Int) (l t : Int) : Int := if l = 4 then 0 else if sLn x t = l then 0 else 1
def sWi (x : Nat → Int → Int) (l : Int) : Int := jSum (fun i => sWr x l (x 6 (l * 20 + i))) (x 5 l).toNat
def sWa (x : Nat → Int → Int) : Int := jSum (sWi x) 4
def sSng (x : Nat → Int → Int) (l : Int) : Int := jSum (fun p => if x 2 p = 1 ∧ sLn x (sSee x (x 4 (2 * p))) = l then 1 else 0) 12
def sLay (x : Nat → Int → Int) (t : Int) : Nat → Int → Int := jS (jS (jS x 2 (jU (x 2) 0 (x 2 0 + 1))) 4 (jU (x 4) (x 2 0) t)) 9 (jU (x 9) 2 (x 9 2 + 1))
def sEmpty (x : Nat → Int → Int) (l : Int) : Nat → Int → Int := jS (jS x 5 (jU (x 5) l 0)) 9 (jU (x 9) 6 (x 9 6 + x 5 l))
def sTtf (x : Nat → Int → Int) (p : Int) : Int := if x 2 p = 0 then -4 else (if (if p = 0 then sGtc x else x 3 p) = 4 then 12 else 2 + 2 * (if p = 0 then sGtc x else x 3 p)) - p
def sCp (y x : Nat → Int → Int) : Nat → Int → Int := jS y 6 (jCp (y 6) (x 6) 0 0 (80 + y 5 4))
theorem jCp_step {f g : Int → Int} {i : Int} (h : 0 ≤ i) : jU (jCp f g 0 0 i) i (f i) = jCp f g 0 0 (i + 1) := by
  funext j
  unfold jU jCp
  by_cases h1 : j = i
  · subst h1
    rw [if_pos rfl, if_pos (by omega)]
    congr 1
    omega
  · rw [if_neg h1]
    by_cases h2 : 0 ≤ j ∧ j < 0 + i
    · rw [if_pos h2, if_pos (by omega)]
    · rw [if_neg h2, if_neg (by omega)]
theorem jCp_0 (f g : Int → Int) : jCp f g 0 0 0 = g := by
  funext j
  unfold jCp
  rw [if_neg (by omega)]
theorem jSum_part {g : Int → Int} : ∀ (n : Nat), (∀ i : Nat, i < n → 0 ≤ g i) → 0 ≤ jSum g n ∧ ∀ k : Nat, k < n → g k ≤ jSum g n := by
  intro n
  induction n with
  | zero => intro _; exact ⟨by unfold jSum; omega, fun k hk => absurd hk (by omega)⟩
  | succ n ih =>
    intro h
    have h1 := ih (fun i hi => h i (by omega))
    have h2 := h n (by omega)
    unfold jSum
    refine ⟨by omega, fun k hk => ?_⟩
    by_cases q : k = n
    · subst q; omega
    · have := h1.2 k (by omega)
      omega
def sTot (x : Nat → Int → Int) : Int := jSum (x 5) 5 + jSum (x 2) 12
theorem sTot_11 {x : Nat → Int → Int} (hx : sOK x) (h : sTot x ≤ 512) : x 5 4 + x 2 11 ≤ 512 := by
  have h5 : ∀ i, 0 ≤ x 5 i ∧ x 5 i ≤ 512 ∧ (i < 4 → x 5 i ≤ 20) := hx 5
  have h2 : ∀ i, 0 ≤ x 2 i ∧ x 2 i ≤ 2 := hx 2
  have a := (jSum_part (g := x 5) 5 (fun i _ => (h5 i).1)).2 4 (by omega)
  have b := (jSum_part (g := x 2) 12 (fun i _ => (h2 i).1)).2 11 (by omega)
  have a' : x 5 4 ≤ jSum (x 5) 5 := a
  have b' : x 2 11 ≤ jSum (x 2) 12 := b
  unfold sTot at h
  omega
theorem sGrade_2 (x : Nat → Int → Int) : sGrade x 2 = x 2 := by
  unfold sGrade
  split <;> rfl
theorem sGrade_ne (x : Nat → Int → Int) {k : Nat} (h3 : k ≠ 3) (h9 : k ≠ 9) : sGrade x k = x k := by
  unfold sGrade
  split
  · rfl
  · rw [jS_ne h9, jS_ne h3]
theorem sOK_9 {x : Nat → Int → Int} {i z : Int} (hx : sOK x) (h : i ≠ 0) : sOK (jS x 9 (jU (x 9) i z)) := by
  refine sOK_S hx ?_
  show 0 ≤ jU (x 9) i z 0 ∧ jU (x 9) i z 0 ≤ 8
  rw [jU_ne (Ne.symm h)]
  exact hx 9
theorem sOK_grade {x : Nat → Int → Int} (hx : sOK x) : sOK (sGrade x) := by
  unfold sGrade
  split
  · exact hx
  · have h1 : sOK (jS x 3 (jU (x 3) 0 (sGtc x))) := sOK_S hx (jU_all (P := fun z => -1 ≤ z ∧ z ≤ 4) (hx 3) (by have := sGtc_rng hx; omega))
    split
    · exact sOK_9 h1 (by omega)
    · exact sOK_S h1 (hx 9)
theorem sOK_put {x : Nat → Int → Int} {l t : Int} (hx : sOK x) (hl : x 5 l < 512 ∧ (l < 4 → x 5 l < 20)) (ht : 0 ≤ t ∧ t < 404000) : sOK (sPut x l t) := by
  have h5 : ∀ i, 0 ≤ x 5 i ∧ x 5 i ≤ 512 ∧ (i < 4 → x 5 i ≤ 20) := hx 5
  refine sOK_S (sOK_S hx (jU_all (P := fun z => 0 ≤ z ∧ z < 404000) (hx 6) ht)) ?_
  show ∀ i, 0 ≤ jU (x 5) l (x 5 l + 1) i ∧ jU (x 5) l (x 5 l + 1) i ≤ 512 ∧ (i < 4 → jU (x 5) l (x 5 l + 1) i ≤ 20)
  intro i
  have := h5 l
  unfold jU
  split
  · subst_vars; omega
  · exact h5 i
theorem sFo_ne (x : Nat → Int → Int) {k : Nat} (h5 : k ≠ 5) (h6 : k ≠ 6) : ∀ n, sFo x n k = x k := by
  intro n
  induction n with
  | zero => rfl
  | succ n ih =>
    show sPut (sFo x n) 4 (x 4 (2 * 11 + n)) k = x k
    unfold sPut
    rw [jS_ne h5, jS_ne h6]
    exact ih
theorem sFo_54 (x : Nat → Int → Int) : ∀ n : Nat, sFo x n 5 4 = x 5 4 + n ∧ ∀ i, i ≠ 4 → sFo x n 5 i = x 5 i := by
  intro n
  induction n with
  | zero => exact ⟨by show x 5 4 = x 5 4 + ((0 : Nat) : Int); omega, fun _ _ => rfl⟩
  | succ n ih =>
    have e : sFo x (n + 1) 5 = jU (sFo x n 5) 4 (sFo x n 5 4 + 1) := by
      show sPut (sFo x n) 4 (x 4 (2 * 11 + n)) 5 = _
      unfold sPut
      exact jS_at _ _ _
    rw [e]
    refine ⟨by rw [jU_at, ih.1]; omega, fun i hi => ?_⟩
    rw [jU_ne hi]
    exact ih.2 i hi
theorem sOK_fo {x : Nat → Int → Int} (hx : sOK x) : ∀ n : Nat, x 5 4 + n ≤ 512 → sOK (sFo x n) := by
  intro n
  induction n with
  | zero => intro _; exact hx
  | succ n ih =>
    intro h
    have h1 := ih (by omega)
    refine sOK_put h1 ?_ (hx 4 _)
    rw [(sFo_54 x n).1]
    omega
theorem sOK_move {x : Nat → Int → Int} (hx : sOK x) : sOK (sMove x) := by
  have h2 : ∀ i, 0 ≤ x 2 i ∧ x 2 i ≤ 2 := hx 2
  have h3 : ∀ i, -1 ≤ x 3 i ∧ x 3 i ≤ 4 := hx 3
  have h4 : ∀ i, 0 ≤ x 4 i ∧ x 4 i < 404000 := hx 4
  refine sOK_S (sOK_S (sOK_S hx ?_) ?_) ?_
  · show ∀ i, 0 ≤ bMv (x 2) 0 i ∧ bMv (x 2) 0 i ≤ 2
    intro i
    have := h2 i
    have := h2 (i - 1)
    unfold bMv
    split <;> (try split) <;> omega
  · show ∀ i, -1 ≤ bMv (x 3) (-1) i ∧ bMv (x 3) (-1) i ≤ 4
    intro i
    have := h3 i
    have := h3 (i - 1)
    unfold bMv
    split <;> (try split) <;> omega
  · show ∀ i, 0 ≤ bMv2 (x 4) i ∧ bMv2 (x 4) i < 404000
    intro i
    have := h4 i
    have := h4 (i - 2)
    unfold bMv2
    split <;> omega
theorem sHurtT_rng {t : Int} (h : 0 ≤ t ∧ t < 404000) (hb : tB t < 9) : sHurtT t = t + 1 ∧ t + 1 < 404000 := by
  unfold sHurtT tOf tW tR tB at *
  omega
theorem sOK_clear {x : Nat → Int → Int} {p : Int} (hx : sOK x) : sOK (sClear x p) := sOK_S (sOK_S hx (jU_all (P := fun z => 0 ≤ z ∧ z ≤ 2) (hx 2) (by omega))) (jU_all (P := fun z => -1 ≤ z ∧ z ≤ 4) (hx 3) (by omega))
theorem sOK_drop {x : Nat → Int → Int} {l : Int} (hx : sOK x) (hl : 0 ≤ l ∧ l < 4) : sOK (sDrX x l) := by
  have h7 : (-20 ≤ x 7 0 ∧ x 7 0 ≤ 20) ∧ (0 ≤ x 7 1 ∧ x 7 1 ≤ 9) ∧ (1 ≤ x 7 2 ∧ x 7 2 ≤ 20) := hx 7
  have h4 : ∀ i, 0 ≤ x 4 i ∧ x 4 i < 404000 := hx 4
  have h44 := h4 (2 * (2 + 2 * l))
  unfold sDrX
  split
  · split
    · exact sOK_9 (sOK_S hx (jU_all (P := fun z => -1 ≤ z ∧ z ≤ 4) (hx 3) (by omega))) (by omega)
    · split
      · rename_i h
        have := sHurtT_rng h44 h.2
        exact sOK_clear (sOK_put (sOK_9 hx (by omega)) (by show x 5 l < 512 ∧ (l < 4 → x 5 l < 20); omega) (by omega))
      · exact sOK_clear (sOK_put hx (by omega) h44)
  · exact hx
theorem sOK_ds {x : Nat → Int → Int} (hx : sOK x) : ∀ n : Nat, n ≤ 4 → sOK (sDs x n).1 := by
  intro n
  induction n with
  | zero => intro _; exact hx
  | succ n ih => intro h; exact sOK_drop (ih (by omega)) (by omega)
theorem sOK_t3 {x : Nat → Int → Int} (hx : sOK x) (h : x 5 4 + x 2 11 ≤ 512) : sOK (sT3 x) := by
  have h2 : ∀ i, 0 ≤ x 2 i ∧ x 2 i ≤ 2 := hx 2
  have h1 := sOK_grade (sOK_9 (i := 1) (z := x 9 1 + 1) hx (by omega))
  refine sOK_move (sOK_fo h1 _ ?_)
  rw [sGrade_2, sGrade_ne _ (by omega) (by omega)]
  show x 5 4 + ((x 2 11).toNat : Int) ≤ 512
  have := h2 11
  omega
theorem sOK_tick {x : Nat → Int → Int} (hx : sOK x) (h : x 5 4 + x 2 11 ≤ 512) : sOK (sTick x) := sOK_ds (sOK_t3 hx h) 4 (by omega)
theorem jSum_01 {g : Int → Int} (h : ∀ i, g i = 0 ∨ g i = 1) : ∀ n : Nat, 0 ≤ jSum g n ∧ jSum g n ≤ n := by
  intro n
  induction n with
  | zero => unfold jSum; omega
  | succ n ih =>
    have := h n
    unfold jSum
    omega
theorem sWr_01 (x : Nat → Int → Int) (l t : Int) : sWr x l t = 0 ∨ sWr x l t = 1 := by
  unfold sWr
  split
  · omega
  · split <;> omega
set_option maxRecDepth 20000 in
theorem in_X5_settingShown_X5 : ∀ x ∈ u_ws RX5 TX5 11, x ∈ wsX5_settingShown := by decide +kernel
set_option maxRecDepth 100000 in
set_option maxHeartbeats 4000000 in
theorem c_X5_settingShown (E : jE) (q : Nat → Nat) (x : Nat → Int → Int) (k : Int) (hx : sOK x) (hk : 0 ≤ k ∧ k ≤ 2) : jMI E yX5_settingShown wsX5_settingShown rmX5_settingShown [.ref (q 0), .int (jI k)] (wState E q x) (if k = 0 then x 7 0 + 20 else x 7 k) (wState E q x) := by
  refine jMI_of (cc := cX5_settingShown) (maxL := 2) (ret := (some .int)) [(0, .ref (q 0)), (1, .int (jI k))] (by decide) rfl rfl (Nat.le_of_ble_eq_true rfl) (fun C => ?_)
  show jG mX5_settingShown E C (jQi E C (if k = 0 then x 7 0 + 20 else x 7 k) (wState E q x)) 0 0 0 [(0, .ref (q 0)), (1, .int (jI k))] [] (wState E q x)
  have r0 : ∀ i, 0 ≤ x 0 i ∧ x 0 i < 404000 := hx 0
  have r1 : ∀ i, 0 ≤ x 1 i ∧ x 1 i ≤ 3 := hx 1
  have r2 : ∀ i, 0 ≤ x 2 i ∧ x 2 i ≤ 2 := hx 2
  have r3 : ∀ i, -1 ≤ x 3 i ∧ x 3 i ≤ 4 := hx 3
  have r4 : ∀ i, 0 ≤ x 4 i ∧ x 4 i < 404000 := hx 4
  have r5 : ∀ i, 0 ≤ x 5 i ∧ x 5 i ≤ 512 ∧ (i < 4 → x 5 i ≤ 20) := hx 5
  have r6 : ∀ i, 0 ≤ x 6 i ∧ x 6 i < 404000 := hx 6
  have r7 : (-20 ≤ x 7 0 ∧ x 7 0 ≤ 20) ∧ (0 ≤ x 7 1 ∧ x 7 1 ≤ 9) ∧ (1 ≤ x 7 2 ∧ x 7 2 ≤ 20) := hx 7
  have r8 : ∀ i, x 8 i = 0 ∨ x 8 i = 1 := hx 8
  have r9 : 0 ≤ x 9 0 ∧ x 9 0 ≤ 8 := hx 9
  refine j_iload_n 1 1 dX5_settingShown_0 rfl rfl ?_
  refine j_if_ne 16 4 dX5_settingShown_1 rfl (by decide) (by omega) (fun h_1 => ?_) (fun h_1 => ?_)
  · skip
    rw [if_neg h_1]
    refine j_aload_n 0 17 dX5_settingShown_16 rfl rfl ?_
    refine j_get 0 3 1 20 in_X5_settingShown_X5 dX5_settingShown_17 rfl rfl rfl (by decide) rfl rfl ?_
    refine j_iload_n 1 21 dX5_settingShown_20 rfl rfl ?_
    refine j_iald 11 22 dX5_settingShown_21 rfl rfl (by decide) (by omega) ?_
    exact j_iret dX5_settingShown_22 rfl (by rfl) (by rfl)
  · skip
    rw [if_pos h_1]
    refine j_aload_n 0 5 dX5_settingShown_4 rfl rfl ?_
    refine j_get 0 3 1 8 in_X5_settingShown_X5 dX5_settingShown_5 rfl rfl rfl (by decide) rfl rfl ?_
    refine j_iconst 9 dX5_settingShown_8 rfl ?_
    refine j_iald 11 10 dX5_settingShown_9 rfl rfl (by decide) (by omega) ?_
    refine j_bipush 12 dX5_settingShown_10 rfl (by decide) ?_
    refine j_iadd 13 dX5_settingShown_12 rfl ?_
    refine j_goto 22 dX5_settingShown_13 (by decide) ?_
    exact j_iret dX5_settingShown_22 rfl (by rfl) (by rfl)
theorem kX5_seen_X6_red : jKs mX5_seen 59 yX6_red wsX6_red rmX6_red 1 := ⟨gX5_seen_X6_red, ⟨_, _, _, _, rfl, by decide⟩, by decide +kernel, rfl, rfl, by decide⟩
set_option maxRecDepth 20000 in
theorem in_X5_seen_X5 : ∀ x ∈ u_ws RX5 TX5 11, x ∈ wsX5_seen := by decide +kernel
theorem kX5_seen_X6_bruise : jKs mX5_seen 74 yX6_bruise wsX6_bruise rmX6_bruise 1 := ⟨gX5_seen_X6_bruise, ⟨_, _, _, _, rfl, by decide⟩, by decide +kernel, rfl, rfl, by decide⟩
theorem kX5_seen_X6_weight : jKs mX5_seen 77 yX6_weight wsX6_weight rmX6_weight 1 := ⟨gX5_seen_X6_weight, ⟨_, _, _, _, rfl, by decide⟩, by decide +kernel, rfl, rfl, by decide⟩
theorem kX5_seen_X6_of : jKs mX5_seen 80 yX6_of wsX6_of rmX6_of 3 := ⟨gX5_seen_X6_of, ⟨_, _, _, _, rfl, by decide⟩, by decide +kernel, rfl, rfl, by decide⟩
set_option maxRecDepth 100000 in
set_option maxHeartbeats 4000000 in
theorem c_X5_seen (E : jE) (q : Nat → Nat) (x : Nat → Int → Int) (t : Int) (hx : sOK x) (ht : 0 ≤ t ∧ t < 404000) : jMI E yX5_seen wsX5_seen rmX5_seen [.ref (q 0), .int (jI t)] (wState E q x) (sSee x t) (wState E q x) := by
  refine jMI_of (cc := cX5_seen) (maxL := 4) (ret := (some .int)) [(0, .ref (q 0)), (1, .int (jI t))] (by decide) rfl rfl (Nat.le_of_ble_eq_true rfl) (fun C => ?_)
  show jG mX5_seen E C (jQi E C (sSee x t) (wState E q x)) 0 0 0 [(0, .ref (q 0)), (1, .int (jI t))] [] (wState E q x)
  have r0 : ∀ i, 0 ≤ x 0 i ∧ x 0 i < 404000 := hx 0
  have r1 : ∀ i, 0 ≤ x 1 i ∧ x 1 i ≤ 3 := hx 1
  have r2 : ∀ i, 0 ≤ x 2 i ∧ x 2 i ≤ 2 := hx 2
  have r3 : ∀ i, -1 ≤ x 3 i ∧ x 3 i ≤ 4 := hx 3
  have r4 : ∀ i, 0 ≤ x 4 i ∧ x 4 i < 404000 := hx 4
  have r5 : ∀ i, 0 ≤ x 5 i ∧ x 5 i ≤ 512 ∧ (i < 4 → x 5 i ≤ 20) := hx 5
  have r6 : ∀ i, 0 ≤ x 6 i ∧ x 6 i < 404000 := hx 6
  have r7 : (-20 ≤ x 7 0 ∧ x 7 0 ≤ 20) ∧ (0 ≤ x 7 1 ∧ x 7 1 ≤ 9) ∧ (1 ≤ x 7 2 ∧ x 7 2 ≤ 20) := hx 7
  have r8 : ∀ i, x 8 i = 0 ∨ x 8 i = 1 := hx 8
  have r9 : 0 ≤ x 9 0 ∧ x 9 0 ≤ 8 := hx 9
  have g1 := tR_rng t
  have g2 := tB_rng t
  have g3 : -2147483648 ≤ jMin 100 (tR t + x 7 0) ∧ jMin 100 (tR t + x 7 0) < 2147483648 := by unfold jMin; split <;> omega
  refine j_iconst 1 dX5_seen_0 rfl ?_
  refine j_bipush 3 dX5_seen_1 rfl (by decide) ?_
  refine j_iload_n 1 4 dX5_seen_3 rfl rfl ?_
  refine j_callSi [] 7 [_, _, _, _, _, _, _, _, _, _, _, _, _] (c_X6_red E _ (by omega)) rfl kX5_seen_X6_red rfl rfl rfl rfl rfl (Nat.le_of_ble_eq_true rfl) (by decide) dX5_seen_4 rfl ?_
  refine j_aload_n 0 8 dX5_seen_7 rfl rfl ?_
  refine j_get 0 3 1 11 in_X5_seen_X5 dX5_seen_8 rfl rfl rfl (by decide) rfl rfl ?_
  refine j_iconst 12 dX5_seen_11 rfl ?_
  refine j_iald 11 13 dX5_seen_12 rfl rfl (by decide) (by omega) ?_
  refine j_iadd 14 dX5_seen_13 rfl ?_
  refine j_mmin 17 (List.mem_of_getElem? (i := 2) rfl) (List.mem_of_getElem? (i := 3) rfl) (List.mem_of_getElem? (i := 4) rfl) (List.mem_of_getElem? (i := 5) rfl) (by decide) (by decide) dX5_seen_14 rfl (by omega) (by omega) ?_
  refine j_mmax 20 (List.mem_of_getElem? (i := 6) rfl) (List.mem_of_getElem? (i := 7) rfl) (List.mem_of_getElem? (i := 4) rfl) (List.mem_of_getElem? (i := 8) rfl) (by decide) (by decide) dX5_seen_17 rfl (by omega) (by omega) ?_
  refine j_istore_n 21 [_, _, _] dX5_seen_20 rfl (by decide) rfl ?_
  refine j_iload_n 2 22 dX5_seen_21 rfl rfl ?_
  refine j_callSi [] 25 [_, _, _, _, _, _, _, _, _, _, _, _, _] (c_X6_bruise E _ (by omega)) rfl kX5_seen_X6_bruise rfl rfl rfl rfl rfl (Nat.le_of_ble_eq_true rfl) (by decide) dX5_seen_22 rfl ?_
  refine j_aload_n 1 26 dX5_seen_25 rfl rfl ?_
  refine j_get 0 3 1 29 in_X5_seen_X5 dX5_seen_26 rfl rfl rfl (by decide) rfl rfl ?_
  refine j_iconst 30 dX5_seen_29 rfl ?_
  refine j_iald 11 31 dX5_seen_30 rfl rfl (by decide) (by omega) ?_
  have e : sSee x t = tOf (tW t) (jMax 0 (jMin 100 (tR t + x 7 0))) (if x 7 1 ≤ tB t then tB t else 0) := rfl
  refine j_icmp_lt 41 34 dX5_seen_31 rfl (by decide) (by omega) (by omega) (fun h_31 => ?_) (fun h_31 => ?_)
  · skip
    rw [if_neg (by omega)] at e
    rw [e]
    refine j_iconst 42 dX5_seen_41 rfl ?_
    refine j_istore_n 43 [_, _, _, _] dX5_seen_42 rfl (by decide) rfl ?_
    refine j_iload_n 3 44 dX5_seen_43 rfl rfl ?_
    refine j_callSi [] 47 [_, _, _, _, _, _, _, _, _, _, _, _, _] (c_X6_weight E _ (by omega)) rfl kX5_seen_X6_weight rfl rfl rfl rfl rfl (Nat.le_of_ble_eq_true rfl) (by decide) dX5_seen_44 rfl ?_
    refine j_iload_n 1 48 dX5_seen_47 rfl rfl ?_
    refine j_iload_n 0 49 dX5_seen_48 rfl rfl ?_
    refine j_callSi [] 52 [_, _, _, _, _, _, _, _, _, _, _, _, _] (c_X6_of E _ _ _ ) rfl kX5_seen_X6_of rfl rfl rfl rfl rfl (Nat.le_of_ble_eq_true rfl) (by decide) dX5_seen_49 rfl ?_
    exact j_iret dX5_seen_52 rfl (by rfl) (by rfl)
  · skip
    rw [if_pos (by omega)] at e
    rw [e]
    refine j_iload_n 2 35 dX5_seen_34 rfl rfl ?_
    refine j_callSi [] 38 [_, _, _, _, _, _, _, _, _, _, _, _, _] (c_X6_bruise E _ (by omega)) rfl kX5_seen_X6_bruise rfl rfl rfl rfl rfl (Nat.le_of_ble_eq_true rfl) (by decide) dX5_seen_35 rfl ?_
    refine j_goto 42 dX5_seen_38 (by decide) ?_
    refine j_istore_n 43 [_, _, _, _] dX5_seen_42 rfl (by decide) rfl ?_
    refine j_iload_n 3 44 dX5_seen_43 rfl rfl ?_
    refine j_callSi [] 47 [_, _, _, _, _, _, _, _, _, _, _, _, _] (c_X6_weight E _ (by omega)) rfl kX5_seen_X6_weight rfl rfl rfl rfl rfl (Nat.le_of_ble_eq_true rfl) (by decide) dX5_seen_44 rfl ?_
    refine j_iload_n 1 48 dX5_seen_47 rfl rfl ?_
    refine j_iload_n 0 49 dX5_seen_48 rfl rfl ?_
    refine j_callSi [] 52 [_, _, _, _, _, _, _, _, _, _, _, _, _] (c_X6_of E _ _ _ ) rfl kX5_seen_X6_of rfl rfl rfl rfl rfl (Nat.le_of_ble_eq_true rfl) (by decide) dX5_seen_49 rfl ?_
    exact j_iret dX5_seen_52 rfl (by rfl) (by rfl)
set_option maxRecDepth 20000 in
theorem in_X5_layApple_X5 : ∀ x ∈ u_ws RX5 TX5 11, x ∈ wsX5_layApple := by decide +kernel
theorem kX5_layApple_X0_layBelowEye : jKv mX5_layApple 84 yX0_layBelowEye wsX0_layBelowEye rmX0_layBelowEye 1 := ⟨gX5_layApple_X0_layBelowEye, ⟨_, _, _, _, rfl, by decide⟩, by decide +kernel, rfl, rfl, by decide⟩
set_option maxRecDepth 100000 in
set_option maxHeartbeats 4000000 in
theorem c_X5_layApple (E : jE) (q : Nat → Nat) (x : Nat → Int → Int) (t : Int) (hx : sOK x) (h2 : x 2 0 < 2) : jMV E yX5_layApple wsX5_layApple rmX5_layApple [.ref (q 0), .int (jI t)] (wState E q x) (wState E q (sLay x t)) := by
  refine jMV_of (cc := cX5_layApple) (maxL := 2) (ret := none) [(0, .ref (q 0)), (1, .int (jI t))] (by decide) rfl rfl (Nat.le_of_ble_eq_true rfl) (fun C => ?_)
  show jG mX5_layApple E C (jQv E C (wState E q (sLay x t))) 0 0 0 [(0, .ref (q 0)), (1, .int (jI t))] [] (wState E q x)
  have r0 : ∀ i, 0 ≤ x 0 i ∧ x 0 i < 404000 := hx 0
  have r1 : ∀ i, 0 ≤ x 1 i ∧ x 1 i ≤ 3 := hx 1
  have r2 : ∀ i, 0 ≤ x 2 i ∧ x 2 i ≤ 2 := hx 2
  have r3 : ∀ i, -1 ≤ x 3 i ∧ x 3 i ≤ 4 := hx 3
  have r4 : ∀ i, 0 ≤ x 4 i ∧ x 4 i < 404000 := hx 4
  have r5 : ∀ i, 0 ≤ x 5 i ∧ x 5 i ≤ 512 ∧ (i < 4 → x 5 i ≤ 20) := hx 5
  have r6 : ∀ i, 0 ≤ x 6 i ∧ x 6 i < 404000 := hx 6
  have r7 : (-20 ≤ x 7 0 ∧ x 7 0 ≤ 20) ∧ (0 ≤ x 7 1 ∧ x 7 1 ≤ 9) ∧ (1 ≤ x 7 2 ∧ x 7 2 ≤ 20) := hx 7
  have r8 : ∀ i, x 8 i = 0 ∨ x 8 i = 1 := hx 8
  have r9 : 0 ≤ x 9 0 ∧ x 9 0 ≤ 8 := hx 9
  have r20 := r2 0
  refine j_aload_n 0 1 dX5_layApple_0 rfl rfl ?_
  refine j_get 0 1 1 4 in_X5_layApple_X5 dX5_layApple_1 rfl rfl rfl (by decide) rfl rfl ?_
  refine j_iload_n 1 5 dX5_layApple_4 rfl rfl ?_
  refine j_callVv 4 [4, 5, 6, 7] 8 [_, _, _, _, _, _, _, _, _, _, _, _, _] (c_X0_layBelowEye E _ _ _ _ _ _ _ _ (by omega)) rfl kX5_layApple_X0_layBelowEye rfl rfl rfl rfl rfl rfl rfl (Nat.le_of_ble_eq_true rfl) (by decide) dX5_layApple_5 rfl ?_
  refine j_aload_n 0 9 dX5_layApple_8 rfl rfl ?_
  refine j_dup 10 dX5_layApple_9 rfl rfl ?_
  refine j_get 0 6 2 13 in_X5_layApple_X5 dX5_layApple_10 rfl rfl rfl (by decide) rfl rfl ?_
  refine j_iconst 14 dX5_layApple_13 rfl ?_
  refine j_iadd 15 dX5_layApple_14 rfl ?_
  refine j_put 0 6 2 18 [(_, .inr (_, [_, _, _, _, _, _, _, _, _, _, _])), _, _, _, _, _, _, _, _, _, _, _, _] tyX5 tyX5_ok nmX5 in_X5_layApple_X5 dX5_layApple_15 rfl rfl rfl (by decide) rfl rfl rfl rfl rfl (Nat.le_of_ble_eq_true rfl) rfl ?_
  exact j_vret dX5_layApple_18 rfl (by rfl)
set_option maxRecDepth 20000 in
theorem in_X5_emptyBox_X5 : ∀ x ∈ u_ws RX5 TX5 11, x ∈ wsX5_emptyBox := by decide +kernel
set_option maxRecDepth 20000 in
theorem in_X5_emptyBox_X2 : ∀ x ∈ u_ws RX2 TX2 2, x ∈ wsX5_emptyBox := by decide +kernel
set_option maxRecDepth 100000 in
set_option maxHeartbeats 4000000 in
theorem c_X5_emptyBox (E : jE) (q : Nat → Nat) (x : Nat → Int → Int) (l : Int) (hx : sOK x) (hl : 0 ≤ l ∧ l ≤ 4) : jMI E yX5_emptyBox wsX5_emptyBox rmX5_emptyBox [.ref (q 0), .int (jI l)] (wState E q x) (x 5 l) (wState E q (sEmpty x l)) := by
  refine jMI_of (cc := cX5_emptyBox) (maxL := 3) (ret := (some .int)) [(0, .ref (q 0)), (1, .int (jI l))] (by decide) rfl rfl (Nat.le_of_ble_eq_true rfl) (fun C => ?_)
  show jG mX5_emptyBox E C (jQi E C (x 5 l) (wState E q (sEmpty x l))) 0 0 0 [(0, .ref (q 0)), (1, .int (jI l))] [] (wState E q x)
  have r0 : ∀ i, 0 ≤ x 0 i ∧ x 0 i < 404000 := hx 0
  have r1 : ∀ i, 0 ≤ x 1 i ∧ x 1 i ≤ 3 := hx 1
  have r2 : ∀ i, 0 ≤ x 2 i ∧ x 2 i ≤ 2 := hx 2
  have r3 : ∀ i, -1 ≤ x 3 i ∧ x 3 i ≤ 4 := hx 3
  have r4 : ∀ i, 0 ≤ x 4 i ∧ x 4 i < 404000 := hx 4
  have r5 : ∀ i, 0 ≤ x 5 i ∧ x 5 i ≤ 512 ∧ (i < 4 → x 5 i ≤ 20) := hx 5
  have r6 : ∀ i, 0 ≤ x 6 i ∧ x 6 i < 404000 := hx 6
  have r7 : (-20 ≤ x 7 0 ∧ x 7 0 ≤ 20) ∧ (0 ≤ x 7 1 ∧ x 7 1 ≤ 9) ∧ (1 ≤ x 7 2 ∧ x 7 2 ≤ 20) := hx 7
  have r8 : ∀ i, x 8 i = 0 ∨ x 8 i = 1 := hx 8
  have r9 : 0 ≤ x 9 0 ∧ x 9 0 ≤ 8 := hx 9
  refine j_aload_n 0 1 dX5_emptyBox_0 rfl rfl ?_
  refine j_get 0 2 1 4 in_X5_emptyBox_X5 dX5_emptyBox_1 rfl rfl rfl (by decide) rfl rfl ?_
  refine j_get 8 0 2 7 in_X5_emptyBox_X2 dX5_emptyBox_4 rfl rfl rfl (by decide) rfl rfl ?_
  refine j_iload_n 1 8 dX5_emptyBox_7 rfl rfl ?_
  refine j_iald 9 9 dX5_emptyBox_8 rfl rfl (by decide) (by omega) ?_
  refine j_istore_n 10 [_, _, _] dX5_emptyBox_9 rfl (by decide) rfl ?_
  refine j_aload_n 1 11 dX5_emptyBox_10 rfl rfl ?_
  refine j_get 0 2 1 14 in_X5_emptyBox_X5 dX5_emptyBox_11 rfl rfl rfl (by decide) rfl rfl ?_
  refine j_get 8 0 2 17 in_X5_emptyBox_X2 dX5_emptyBox_14 rfl rfl rfl (by decide) rfl rfl ?_
  refine j_iload_n 2 18 dX5_emptyBox_17 rfl rfl ?_
  refine j_iconst 19 dX5_emptyBox_18 rfl ?_
  refine j_iast 9 20 [_, _, _, _, _, _, _, _, _, _, _, _, _] dX5_emptyBox_19 rfl rfl (by decide) (by omega) rfl ?_
  refine j_aload_n 1 21 dX5_emptyBox_20 rfl rfl ?_
  refine j_dup 22 dX5_emptyBox_21 rfl rfl ?_
  refine j_get 0 10 3 25 in_X5_emptyBox_X5 dX5_emptyBox_22 rfl rfl rfl (by decide) rfl rfl ?_
  refine j_iload_n 0 26 dX5_emptyBox_25 rfl rfl ?_
  refine j_iadd 27 dX5_emptyBox_26 rfl ?_
  refine j_put 0 10 3 30 [(_, .inr (_, [_, _, _, _, _, _, _, _, _, _, _])), _, _, _, _, _, _, _, _, _, _, _, _] tyX5 tyX5_ok nmX5 in_X5_emptyBox_X5 dX5_emptyBox_27 rfl rfl rfl (by decide) rfl rfl rfl rfl rfl (Nat.le_of_ble_eq_true rfl) rfl ?_
  refine j_iload_n 0 31 dX5_emptyBox_30 rfl rfl ?_
  exact j_iret dX5_emptyBox_31 rfl (by rfl) (by rfl)
set_option maxRecDepth 100000 in
set_option maxHeartbeats 4000000 in
theorem c_X5_dropPlace (E : jE) (q : Nat → Nat) (x : Nat → Int → Int) (l : Int)  : jMI E yX5_dropPlace wsX5_dropPlace rmX5_dropPlace [.ref (q 0), .int (jI l)] (wState E q x) (2 + 2 * l) (wState E q x) := by
  refine jMI_of (cc := cX5_dropPlace) (maxL := 2) (ret := (some .int)) [(0, .ref (q 0)), (1, .int (jI l))] (by decide) rfl rfl (Nat.le_of_ble_eq_true rfl) (fun C => ?_)
  show jG mX5_dropPlace E C (jQi E C (2 + 2 * l) (wState E q x)) 0 0 0 [(0, .ref (q 0)), (1, .int (jI l))] [] (wState E q x)
  refine j_iconst 1 dX5_dropPlace_0 rfl ?_
  refine j_iconst 2 dX5_dropPlace_1 rfl ?_
  refine j_iload_n 1 3 dX5_dropPlace_2 rfl rfl ?_
  refine j_imul 4 dX5_dropPlace_3 rfl ?_
  refine j_iadd 5 dX5_dropPlace_4 rfl ?_
  exact j_iret dX5_dropPlace_5 rfl (by rfl) (by rfl)
set_option maxRecDepth 20000 in
theorem in_X5_gradeToCome_X5 : ∀ x ∈ u_ws RX5 TX5 11, x ∈ wsX5_gradeToCome := by decide +kernel
set_option maxRecDepth 20000 in
theorem in_X5_gradeToCome_X0 : ∀ x ∈ u_ws RX0 TX0 3, x ∈ wsX5_gradeToCome := by decide +kernel
theorem kX5_gradeToCome_X0_firstIn : jKv mX5_gradeToCome 111 yX0_firstIn wsX0_firstIn rmX0_firstIn 1 := ⟨gX5_gradeToCome_X0_firstIn, ⟨_, _, _, _, rfl, by decide⟩, by decide +kernel, rfl, rfl, by decide⟩
theorem kX5_gradeToCome_X5_seen : jKv mX5_gradeToCome 114 yX5_seen wsX5_seen rmX5_seen 1 := ⟨gX5_gradeToCome_X5_seen, ⟨_, _, _, _, rfl, by decide⟩, by decide +kernel, rfl, rfl, by decide⟩
theorem kX5_gradeToCome_X1_laneFromFirst : jKv mX5_gradeToCome 117 yX1_laneFromFirst wsX1_laneFromFirst rmX1_laneFromFirst 1 := ⟨gX5_gradeToCome_X1_laneFromFirst, ⟨_, _, _, _, rfl, by decide⟩, by decide +kernel, rfl, rfl, by decide⟩
set_option maxRecDepth 100000 in
set_option maxHeartbeats 4000000 in
theorem c_X5_gradeToCome (E : jE) (q : Nat → Nat) (x : Nat → Int → Int) (hx : sOK x) : jMI E yX5_gradeToCome wsX5_gradeToCome rmX5_gradeToCome [.ref (q 0)] (wState E q x) (sGtc x) (wState E q x) := by
  refine jMI_of (cc := cX5_gradeToCome) (maxL := 1) (ret := (some .int)) [(0, .ref (q 0))] (by decide) rfl rfl (Nat.le_of_ble_eq_true rfl) (fun C => ?_)
  show jG mX5_gradeToCome E C (jQi E C (sGtc x) (wState E q x)) 0 0 0 [(0, .ref (q 0))] [] (wState E q x)
  have r0 : ∀ i, 0 ≤ x 0 i ∧ x 0 i < 404000 := hx 0
  have r1 : ∀ i, 0 ≤ x 1 i ∧ x 1 i ≤ 3 := hx 1
  have r2 : ∀ i, 0 ≤ x 2 i ∧ x 2 i ≤ 2 := hx 2
  have r3 : ∀ i, -1 ≤ x 3 i ∧ x 3 i ≤ 4 := hx 3
  have r4 : ∀ i, 0 ≤ x 4 i ∧ x 4 i < 404000 := hx 4
  have r5 : ∀ i, 0 ≤ x 5 i ∧ x 5 i ≤ 512 ∧ (i < 4 → x 5 i ≤ 20) := hx 5
  have r6 : ∀ i, 0 ≤ x 6 i ∧ x 6 i < 404000 := hx 6
  have r7 : (-20 ≤ x 7 0 ∧ x 7 0 ≤ 20) ∧ (0 ≤ x 7 1 ∧ x 7 1 ≤ 9) ∧ (1 ≤ x 7 2 ∧ x 7 2 ≤ 20) := hx 7
  have r8 : ∀ i, x 8 i = 0 ∨ x 8 i = 1 := hx 8
  have r9 : 0 ≤ x 9 0 ∧ x 9 0 ≤ 8 := hx 9
  have r20 := r2 0
  have r40 := r4 0
  have ss := sSee_rng (t := x 4 0) hx r40
  refine j_aload_n 0 1 dX5_gradeToCome_0 rfl rfl ?_
  refine j_get 0 1 1 4 in_X5_gradeToCome_X5 dX5_gradeToCome_1 rfl rfl rfl (by decide) rfl rfl ?_
  refine j_get 4 0 2 7 in_X5_gradeToCome_X0 dX5_gradeToCome_4 rfl rfl rfl (by decide) rfl rfl ?_
  refine j_iconst 8 dX5_gradeToCome_7 rfl ?_
  refine j_iald 5 9 dX5_gradeToCome_8 rfl rfl (by decide) (by omega) ?_
  refine j_iconst 10 dX5_gradeToCome_9 rfl ?_
  refine j_icmp_ne 35 13 dX5_gradeToCome_10 rfl (by decide) (by omega) (by omega) (fun h_10 => ?_) (fun h_10 => ?_)
  · skip
    have e : sGtc x = 4 := if_neg h_10
    rw [e]
    refine j_iconst 36 dX5_gradeToCome_35 rfl ?_
    exact j_iret dX5_gradeToCome_36 rfl (by rfl) (by rfl)
  · skip
    have e : sGtc x = sLn x (sSee x (x 4 0)) := if_pos h_10
    rw [e]
    refine j_aload_n 0 14 dX5_gradeToCome_13 rfl rfl ?_
    refine j_get 0 0 3 17 in_X5_gradeToCome_X5 dX5_gradeToCome_14 rfl rfl rfl (by decide) rfl rfl ?_
    refine j_aload_n 0 18 dX5_gradeToCome_17 rfl rfl ?_
    refine j_aload_n 0 19 dX5_gradeToCome_18 rfl rfl ?_
    refine j_get 0 1 1 22 in_X5_gradeToCome_X5 dX5_gradeToCome_19 rfl rfl rfl (by decide) rfl rfl ?_
    refine j_iconst 23 dX5_gradeToCome_22 rfl ?_
    refine j_callVi 4 [4, 5, 6, 7] 26 [_, _, _, _, _, _, _, _, _, _, _, _, _] (c_X0_firstIn E _ _ _ _ _ _ _ _ (by omega)) rfl kX5_gradeToCome_X0_firstIn rfl rfl rfl rfl rfl rfl rfl (Nat.le_of_ble_eq_true rfl) (by decide) dX5_gradeToCome_23 rfl ?_
    change jG _ E C _ 0 0 26 _ (.int (jI (x 4 0)) :: _) _
    refine j_callVi 0 [0, 1, 2, 3, 4, 5, 6, 7, 8, 9, 10, 11, 12] 29 [_, _, _, _, _, _, _, _, _, _, _, _, _] (c_X5_seen E _ _ _ (by exact hx) (by exact r40)) rfl kX5_gradeToCome_X5_seen rfl rfl rfl rfl rfl rfl rfl (Nat.le_of_ble_eq_true rfl) (by decide) dX5_gradeToCome_26 rfl ?_
    refine j_callVi 1 [1, 2, 3] 32 [_, _, _, _, _, _, _, _, _, _, _, _, _] (c_X1_laneFromFirst E _ _ _ _ _ _ _ (by omega) (by intro i; have := r0 i; omega) (by omega)) rfl kX5_gradeToCome_X1_laneFromFirst rfl rfl rfl rfl rfl rfl rfl (Nat.le_of_ble_eq_true rfl) (by decide) dX5_gradeToCome_29 rfl ?_
    refine j_goto 36 dX5_gradeToCome_32 (by decide) ?_
    exact j_iret dX5_gradeToCome_36 rfl (by rfl) (by rfl)
set_option maxRecDepth 20000 in
theorem in_X5_gradeBelowEye_X5 : ∀ x ∈ u_ws RX5 TX5 11, x ∈ wsX5_gradeBelowEye := by decide +kernel
set_option maxRecDepth 20000 in
theorem in_X5_gradeBelowEye_X0 : ∀ x ∈ u_ws RX0 TX0 3, x ∈ wsX5_gradeBelowEye := by decide +kernel
theorem kX5_gradeBelowEye_X5_gradeToCome : jKv mX5_gradeBelowEye 108 yX5_gradeToCome wsX5_gradeToCome rmX5_gradeToCome 0 := ⟨gX5_gradeBelowEye_X5_gradeToCome, ⟨_, _, _, _, rfl, by decide⟩, by decide +kernel, rfl, rfl, by decide⟩
set_option maxRecDepth 100000 in
set_option maxHeartbeats 4000000 in
theorem c_X5_gradeBelowEye (E : jE) (q : Nat → Nat) (x : Nat → Int → Int) (hx : sOK x) : jMV E yX5_gradeBelowEye wsX5_gradeBelowEye rmX5_gradeBelowEye [.ref (q 0)] (wState E q x) (wState E q (sGrade x)) := by
  refine jMV_of (cc := cX5_gradeBelowEye) (maxL := 1) (ret := none) [(0, .ref (q 0))] (by decide) rfl rfl (Nat.le_of_ble_eq_true rfl) (fun C => ?_)
  show jG mX5_gradeBelowEye E C (jQv E C (wState E q (sGrade x))) 0 0 0 [(0, .ref (q 0))] [] (wState E q x)
  have r0 : ∀ i, 0 ≤ x 0 i ∧ x 0 i < 404000 := hx 0
  have r1 : ∀ i, 0 ≤ x 1 i ∧ x 1 i ≤ 3 := hx 1
  have r2 : ∀ i, 0 ≤ x 2 i ∧ x 2 i ≤ 2 := hx 2
  have r3 : ∀ i, -1 ≤ x 3 i ∧ x 3 i ≤ 4 := hx 3
  have r4 : ∀ i, 0 ≤ x 4 i ∧ x 4 i < 404000 := hx 4
  have r5 : ∀ i, 0 ≤ x 5 i ∧ x 5 i ≤ 512 ∧ (i < 4 → x 5 i ≤ 20) := hx 5
  have r6 : ∀ i, 0 ≤ x 6 i ∧ x 6 i < 404000 := hx 6
  have r7 : (-20 ≤ x 7 0 ∧ x 7 0 ≤ 20) ∧ (0 ≤ x 7 1 ∧ x 7 1 ≤ 9) ∧ (1 ≤ x 7 2 ∧ x 7 2 ≤ 20) := hx 7
  have r8 : ∀ i, x 8 i = 0 ∨ x 8 i = 1 := hx 8
  have r9 : 0 ≤ x 9 0 ∧ x 9 0 ≤ 8 := hx 9
  have r20 := r2 0
  refine j_aload_n 0 1 dX5_gradeBelowEye_0 rfl rfl ?_
  refine j_get 0 1 1 4 in_X5_gradeBelowEye_X5 dX5_gradeBelowEye_1 rfl rfl rfl (by decide) rfl rfl ?_
  refine j_get 4 0 2 7 in_X5_gradeBelowEye_X0 dX5_gradeBelowEye_4 rfl rfl rfl (by decide) rfl rfl ?_
  refine j_iconst 8 dX5_gradeBelowEye_7 rfl ?_
  refine j_iald 5 9 dX5_gradeBelowEye_8 rfl rfl (by decide) (by omega) ?_
  refine j_if_ne 13 12 dX5_gradeBelowEye_9 rfl (by decide) (by omega) (fun h_9 => ?_) (fun h_9 => ?_)
  · skip
    have e : sGrade x = jS (jS x 3 (jU (x 3) 0 (sGtc x))) 9 (if x 2 0 = 2 then jU (x 9) 4 (x 9 4 + 1) else x 9) := if_neg h_9
    rw [e]
    refine j_aload_n 0 14 dX5_gradeBelowEye_13 rfl rfl ?_
    refine j_get 0 1 1 17 in_X5_gradeBelowEye_X5 dX5_gradeBelowEye_14 rfl rfl rfl (by decide) rfl rfl ?_
    refine j_get 4 1 3 20 in_X5_gradeBelowEye_X0 dX5_gradeBelowEye_17 rfl rfl rfl (by decide) rfl rfl ?_
    refine j_iconst 21 dX5_gradeBelowEye_20 rfl ?_
    refine j_aload_n 0 22 dX5_gradeBelowEye_21 rfl rfl ?_
    refine j_callVi 0 [0, 1, 2, 3, 4, 5, 6, 7, 8, 9, 10, 11, 12] 25 [_, _, _, _, _, _, _, _, _, _, _, _, _] (c_X5_gradeToCome E _ _ (by exact hx)) rfl kX5_gradeBelowEye_X5_gradeToCome rfl rfl rfl rfl rfl rfl rfl (Nat.le_of_ble_eq_true rfl) (by decide) dX5_gradeBelowEye_22 rfl ?_
    refine j_iast 6 26 [_, _, _, _, _, _, _, _, _, _, _, _, _] dX5_gradeBelowEye_25 rfl rfl (by decide) (by omega) rfl ?_
    refine j_aload_n 0 27 dX5_gradeBelowEye_26 rfl rfl ?_
    refine j_get 0 1 1 30 in_X5_gradeBelowEye_X5 dX5_gradeBelowEye_27 rfl rfl rfl (by decide) rfl rfl ?_
    refine j_get 4 0 2 33 in_X5_gradeBelowEye_X0 dX5_gradeBelowEye_30 rfl rfl rfl (by decide) rfl rfl ?_
    refine j_iconst 34 dX5_gradeBelowEye_33 rfl ?_
    refine j_iald 5 35 dX5_gradeBelowEye_34 rfl rfl (by decide) (by omega) ?_
    refine j_iconst 36 dX5_gradeBelowEye_35 rfl ?_
    refine j_icmp_ne 49 39 dX5_gradeBelowEye_36 rfl (by decide) (by omega) (by omega) (fun h_36 => ?_) (fun h_36 => ?_)
    · skip
      rw [if_neg h_36]
      exact j_vret dX5_gradeBelowEye_49 rfl (by rfl)
    · skip
      rw [if_pos h_36]
      refine j_aload_n 0 40 dX5_gradeBelowEye_39 rfl rfl ?_
      refine j_dup 41 dX5_gradeBelowEye_40 rfl rfl ?_
      refine j_get 0 8 4 44 in_X5_gradeBelowEye_X5 dX5_gradeBelowEye_41 rfl rfl rfl (by decide) rfl rfl ?_
      refine j_iconst 45 dX5_gradeBelowEye_44 rfl ?_
      refine j_iadd 46 dX5_gradeBelowEye_45 rfl ?_
      refine j_put 0 8 4 49 [(_, .inr (_, [_, _, _, _, _, _, _, _, _, _, _])), _, _, _, _, _, _, _, _, _, _, _, _] tyX5 tyX5_ok nmX5 in_X5_gradeBelowEye_X5 dX5_gradeBelowEye_46 rfl rfl rfl (by decide) rfl rfl rfl rfl rfl (Nat.le_of_ble_eq_true rfl) rfl ?_
      exact j_vret dX5_gradeBelowEye_49 rfl (by rfl)
  · skip
    have e : sGrade x = x := if_pos h_9
    rw [e]
    exact j_vret dX5_gradeBelowEye_12 rfl (by rfl)
set_option maxRecDepth 20000 in
theorem in_X5_fallOut_X5 : ∀ x ∈ u_ws RX5 TX5 11, x ∈ wsX5_fallOut := by decide +kernel
set_option maxRecDepth 20000 in
theorem in_X5_fallOut_X0 : ∀ x ∈ u_ws RX0 TX0 3, x ∈ wsX5_fallOut := by decide +kernel
theorem kX5_fallOut_X2_put : jKv mX5_fallOut 123 yX2_put wsX2_put rmX2_put 2 := ⟨gX5_fallOut_X2_put, ⟨_, _, _, _, rfl, by decide⟩, by decide +kernel, rfl, rfl, by decide⟩
set_option maxRecDepth 100000 in
set_option maxHeartbeats 4000000 in
theorem c_X5_fallOut (E : jE) (q : Nat → Nat) (x : Nat → Int → Int) (hx : sOK x) (h5 : x 5 4 + x 2 11 ≤ 512) : jMI E yX5_fallOut wsX5_fallOut rmX5_fallOut [.ref (q 0)] (wState E q x) (x 2 11) (wState E q (sFo x (x 2 11).toNat)) := by
  refine jMI_of (cc := cX5_fallOut) (maxL := 3) (ret := (some .int)) [(0, .ref (q 0))] (by decide) rfl rfl (Nat.le_of_ble_eq_true rfl) (fun C => ?_)
  show jG mX5_fallOut E C (jQi E C (x 2 11) (wState E q (sFo x (x 2 11).toNat))) 0 0 0 [(0, .ref (q 0))] [] (wState E q x)
  have r0 : ∀ i, 0 ≤ x 0 i ∧ x 0 i < 404000 := hx 0
  have r1 : ∀ i, 0 ≤ x 1 i ∧ x 1 i ≤ 3 := hx 1
  have r2 : ∀ i, 0 ≤ x 2 i ∧ x 2 i ≤ 2 := hx 2
  have r3 : ∀ i, -1 ≤ x 3 i ∧ x 3 i ≤ 4 := hx 3
  have r4 : ∀ i, 0 ≤ x 4 i ∧ x 4 i < 404000 := hx 4
  have r5 : ∀ i, 0 ≤ x 5 i ∧ x 5 i ≤ 512 ∧ (i < 4 → x 5 i ≤ 20) := hx 5
  have r6 : ∀ i, 0 ≤ x 6 i ∧ x 6 i < 404000 := hx 6
  have r7 : (-20 ≤ x 7 0 ∧ x 7 0 ≤ 20) ∧ (0 ≤ x 7 1 ∧ x 7 1 ≤ 9) ∧ (1 ≤ x 7 2 ∧ x 7 2 ≤ 20) := hx 7
  have r8 : ∀ i, x 8 i = 0 ∨ x 8 i = 1 := hx 8
  have r9 : 0 ≤ x 9 0 ∧ x 9 0 ≤ 8 := hx 9
  have r211 := r2 11
  refine j_bipush 2 dX5_fallOut_0 rfl (by decide) ?_
  refine j_istore_n 3 [_, _] dX5_fallOut_2 rfl (by decide) rfl ?_
  refine j_iconst 4 dX5_fallOut_3 rfl ?_
  refine j_istore_n 5 [_, _, _] dX5_fallOut_4 rfl (by decide) rfl ?_
  have key5 : ∀ (fu i : Nat), (x 2 11).toNat < i + fu → (i : Int) ≤ x 2 11 → jG mX5_fallOut E C (jQi E C (x 2 11) (wState E q (sFo x (x 2 11).toNat))) 0 0 5 [(0, .ref (q 0)), (1, .int (jI 11)), (2, .int (jI (i : Int)))] [] (wState E q (sFo x i)) := by
    intro fu
    induction fu with
    | zero => intro i h1 h2; exact absurd h1 (by omega)
    | succ fu ih =>
      intro i h1 h2
      have e2 := sFo_ne x (k := 2) (by omega) (by omega) i
      have e4 := sFo_ne x (k := 4) (by omega) (by omega) i
      have e5 := (sFo_54 x i).1
      have ok5 : ∀ j, 0 ≤ sFo x i 5 j ∧ sFo x i 5 j ≤ 512 ∧ (j < 4 → sFo x i 5 j ≤ 20) := sOK_fo hx i (by omega) 5
      have ok54 := ok5 4
      have f2 : sFo x i 2 11 = x 2 11 := by rw [e2]
      have f4 : sFo x i 4 (2 * 11 + i) = x 4 (2 * 11 + i) := by rw [e4]
      refine j_iload_n 2 6 dX5_fallOut_5 rfl rfl ?_
      refine j_aload_n 0 7 dX5_fallOut_6 rfl rfl ?_
      refine j_get 0 1 1 10 in_X5_fallOut_X5 dX5_fallOut_7 rfl rfl rfl (by decide) rfl rfl ?_
      refine j_get 4 0 2 13 in_X5_fallOut_X0 dX5_fallOut_10 rfl rfl rfl (by decide) rfl rfl ?_
      refine j_iload_n 1 14 dX5_fallOut_13 rfl rfl ?_
      refine j_iald 5 15 dX5_fallOut_14 rfl rfl (by decide) (by omega) ?_
      refine j_icmp_ge 45 18 dX5_fallOut_15 rfl (by decide) (by omega) (by omega) (fun h_15 => ?_) (fun h_15 => ?_)
      · skip
        obtain rfl : i = (x 2 11).toNat := by omega
        refine j_aload_n 0 46 dX5_fallOut_45 rfl rfl ?_
        refine j_get 0 1 1 49 in_X5_fallOut_X5 dX5_fallOut_46 rfl rfl rfl (by decide) rfl rfl ?_
        refine j_get 4 0 2 52 in_X5_fallOut_X0 dX5_fallOut_49 rfl rfl rfl (by decide) rfl rfl ?_
        refine j_iload_n 1 53 dX5_fallOut_52 rfl rfl ?_
        refine j_iald 5 54 dX5_fallOut_53 rfl rfl (by decide) (by omega) ?_
        exact j_iret dX5_fallOut_54 rfl (by rw [f2]) (by rfl)
      · skip
        refine j_aload_n 0 19 dX5_fallOut_18 rfl rfl ?_
        refine j_get 0 2 3 22 in_X5_fallOut_X5 dX5_fallOut_19 rfl rfl rfl (by decide) rfl rfl ?_
        refine j_iconst 23 dX5_fallOut_22 rfl ?_
        refine j_aload_n 0 24 dX5_fallOut_23 rfl rfl ?_
        refine j_get 0 1 1 27 in_X5_fallOut_X5 dX5_fallOut_24 rfl rfl rfl (by decide) rfl rfl ?_
        refine j_get 4 2 4 30 in_X5_fallOut_X0 dX5_fallOut_27 rfl rfl rfl (by decide) rfl rfl ?_
        refine j_iconst 31 dX5_fallOut_30 rfl ?_
        refine j_iload_n 1 32 dX5_fallOut_31 rfl rfl ?_
        refine j_imul 33 dX5_fallOut_32 rfl ?_
        refine j_iload_n 2 34 dX5_fallOut_33 rfl rfl ?_
        refine j_iadd 35 dX5_fallOut_34 rfl ?_
        refine j_iald 7 36 dX5_fallOut_35 rfl rfl (by decide) (by omega) ?_
        rw [f4]
        refine j_callVv 8 [8, 9, 10] 39 [_, _, _, _, _, _, _, _, _, _, _, _, _] (c_X2_put E _ _ _ _ _ _ _ (by omega) (by omega)) rfl kX5_fallOut_X2_put rfl rfl rfl rfl rfl rfl rfl (Nat.le_of_ble_eq_true rfl) (by decide) dX5_fallOut_36 rfl ?_
        refine j_iinc 2 42 [_, _, _] dX5_fallOut_39 rfl rfl (by decide) rfl ?_
        refine j_goto 5 dX5_fallOut_42 (by decide) ?_
        refine j_perm [1, 2, 0] rfl ?_
        exact ih (i + 1) (by omega) (by omega)
  refine j_perm [2, 1, 0] rfl ?_
  exact key5 ((x 2 11).toNat + 1) 0 (by omega) (by omega)
theorem kX5_dropInto_X5_dropPlace : jKv mX5_dropInto 127 yX5_dropPlace wsX5_dropPlace rmX5_dropPlace 1 := ⟨gX5_dropInto_X5_dropPlace, ⟨_, _, _, _, rfl, by decide⟩, by decide +kernel, rfl, rfl, by decide⟩
set_option maxRecDepth 20000 in
theorem in_X5_dropInto_X5 : ∀ x ∈ u_ws RX5 TX5 11, x ∈ wsX5_dropInto := by decide +kernel
set_option maxRecDepth 20000 in
theorem in_X5_dropInto_X0 : ∀ x ∈ u_ws RX0 TX0 3, x ∈ wsX5_dropInto := by decide +kernel
set_option maxRecDepth 20000 in
theorem in_X5_dropInto_X2 : ∀ x ∈ u_ws RX2 TX2 2, x ∈ wsX5_dropInto := by decide +kernel
theorem kX5_dropInto_X0_firstIn : jKv mX5_dropInto 111 yX0_firstIn wsX0_firstIn rmX0_firstIn 1 := ⟨gX5_dropInto_X0_firstIn, ⟨_, _, _, _, rfl, by decide⟩, by decide +kernel, rfl, rfl, by decide⟩
theorem kX5_dropInto_X2_put : jKv mX5_dropInto 123 yX2_put wsX2_put rmX2_put 2 := ⟨gX5_dropInto_X2_put, ⟨_, _, _, _, rfl, by decide⟩, by decide +kernel, rfl, rfl, by decide⟩
theorem kX5_dropInto_X0_clearCup : jKv mX5_dropInto 130 yX0_clearCup wsX0_clearCup rmX0_clearCup 1 := ⟨gX5_dropInto_X0_clearCup, ⟨_, _, _, _, rfl, by decide⟩, by decide +kernel, rfl, rfl, by decide⟩
theorem kX5_dropInto_X6_bruise : jKs mX5_dropInto 74 yX6_bruise wsX6_bruise rmX6_bruise 1 := ⟨gX5_dropInto_X6_bruise, ⟨_, _, _, _, rfl, by decide⟩, by decide +kernel, rfl, rfl, by decide⟩
theorem kX5_dropInto_X6_weight : jKs mX5_dropInto 77 yX6_weight wsX6_weight rmX6_weight 1 := ⟨gX5_dropInto_X6_weight, ⟨_, _, _, _, rfl, by decide⟩, by decide +kernel, rfl, rfl, by decide⟩
theorem kX5_dropInto_X6_red : jKs mX5_dropInto 59 yX6_red wsX6_red rmX6_red 1 := ⟨gX5_dropInto_X6_red, ⟨_, _, _, _, rfl, by decide⟩, by decide +kernel, rfl, rfl, by decide⟩
theorem kX5_dropInto_X6_of : jKs mX5_dropInto 80 yX6_of wsX6_of rmX6_of 3 := ⟨gX5_dropInto_X6_of, ⟨_, _, _, _, rfl, by decide⟩, by decide +kernel, rfl, rfl, by decide⟩
set_option maxRecDepth 100000 in
set_option maxHeartbeats 4000000 in
theorem c_X5_dropInto (E : jE) (q : Nat → Nat) (x : Nat → Int → Int) (l : Int) (hx : sOK x) (hl : 0 ≤ l ∧ l < 4) : jMI E yX5_dropInto wsX5_dropInto rmX5_dropInto [.ref (q 0), .int (jI l)] (wState E q x) (sDrN x l) (wState E q (sDrX x l)) := by
  refine jMI_of (cc := cX5_dropInto) (maxL := 4) (ret := (some .int)) [(0, .ref (q 0)), (1, .int (jI l))] (by decide) rfl rfl (Nat.le_of_ble_eq_true rfl) (fun C => ?_)
  show jG mX5_dropInto E C (jQi E C (sDrN x l) (wState E q (sDrX x l))) 0 0 0 [(0, .ref (q 0)), (1, .int (jI l))] [] (wState E q x)
  have r0 : ∀ i, 0 ≤ x 0 i ∧ x 0 i < 404000 := hx 0
  have r1 : ∀ i, 0 ≤ x 1 i ∧ x 1 i ≤ 3 := hx 1
  have r2 : ∀ i, 0 ≤ x 2 i ∧ x 2 i ≤ 2 := hx 2
  have r3 : ∀ i, -1 ≤ x 3 i ∧ x 3 i ≤ 4 := hx 3
  have r4 : ∀ i, 0 ≤ x 4 i ∧ x 4 i < 404000 := hx 4
  have r5 : ∀ i, 0 ≤ x 5 i ∧ x 5 i ≤ 512 ∧ (i < 4 → x 5 i ≤ 20) := hx 5
  have r6 : ∀ i, 0 ≤ x 6 i ∧ x 6 i < 404000 := hx 6
  have r7 : (-20 ≤ x 7 0 ∧ x 7 0 ≤ 20) ∧ (0 ≤ x 7 1 ∧ x 7 1 ≤ 9) ∧ (1 ≤ x 7 2 ∧ x 7 2 ≤ 20) := hx 7
  have r8 : ∀ i, x 8 i = 0 ∨ x 8 i = 1 := hx 8
  have r9 : 0 ≤ x 9 0 ∧ x 9 0 ≤ 8 := hx 9
  have r3p := r3 (2 + 2 * l)
  have r5l := r5 l
  have r4p := r4 (2 * (2 + 2 * l))
  have gb := tB_rng (x 4 (2 * (2 + 2 * l)))
  have r8l := r8 l
  refine j_aload_n 0 1 dX5_dropInto_0 rfl rfl ?_
  refine j_iload_n 1 2 dX5_dropInto_1 rfl rfl ?_
  refine j_callVi 0 [0, 1, 2, 3, 4, 5, 6, 7, 8, 9, 10, 11, 12] 5 [_, _, _, _, _, _, _, _, _, _, _, _, _] (c_X5_dropPlace E _ _ _ ) rfl kX5_dropInto_X5_dropPlace rfl rfl rfl rfl rfl rfl rfl (Nat.le_of_ble_eq_true rfl) (by decide) dX5_dropInto_2 rfl ?_
  refine j_istore_n 6 [_, _, _] dX5_dropInto_5 rfl (by decide) rfl ?_
  refine j_aload_n 1 7 dX5_dropInto_6 rfl rfl ?_
  refine j_get 0 1 1 10 in_X5_dropInto_X5 dX5_dropInto_7 rfl rfl rfl (by decide) rfl rfl ?_
  refine j_get 4 1 2 13 in_X5_dropInto_X0 dX5_dropInto_10 rfl rfl rfl (by decide) rfl rfl ?_
  refine j_iload_n 0 14 dX5_dropInto_13 rfl rfl ?_
  refine j_iald 6 15 dX5_dropInto_14 rfl rfl (by decide) (by omega) ?_
  refine j_iload_n 2 16 dX5_dropInto_15 rfl rfl ?_
  refine j_icmp_eq 21 19 dX5_dropInto_16 rfl (by decide) (by omega) (by omega) (fun h_16 => ?_) (fun h_16 => ?_)
  · skip
    refine j_aload_n 1 22 dX5_dropInto_21 rfl rfl ?_
    refine j_get 0 2 3 25 in_X5_dropInto_X5 dX5_dropInto_22 rfl rfl rfl (by decide) rfl rfl ?_
    refine j_get 8 0 4 28 in_X5_dropInto_X2 dX5_dropInto_25 rfl rfl rfl (by decide) rfl rfl ?_
    refine j_iload_n 2 29 dX5_dropInto_28 rfl rfl ?_
    refine j_iald 9 30 dX5_dropInto_29 rfl rfl (by decide) (by omega) ?_
    refine j_aload_n 1 31 dX5_dropInto_30 rfl rfl ?_
    refine j_get 0 3 5 34 in_X5_dropInto_X5 dX5_dropInto_31 rfl rfl rfl (by decide) rfl rfl ?_
    refine j_iconst 35 dX5_dropInto_34 rfl ?_
    refine j_iald 11 36 dX5_dropInto_35 rfl rfl (by decide) (by omega) ?_
    refine j_icmp_lt 61 39 dX5_dropInto_36 rfl (by decide) (by omega) (by omega) (fun h_36 => ?_) (fun h_36 => ?_)
    · skip
      have e2 : sDrN x l = 1 := by unfold sDrN; rw [if_pos h_16, if_neg (by omega)]
      rw [e2]
      refine j_aload_n 1 62 dX5_dropInto_61 rfl rfl ?_
      refine j_get 0 1 1 65 in_X5_dropInto_X5 dX5_dropInto_62 rfl rfl rfl (by decide) rfl rfl ?_
      refine j_iload_n 0 66 dX5_dropInto_65 rfl rfl ?_
      refine j_callVi 4 [4, 5, 6, 7] 69 [_, _, _, _, _, _, _, _, _, _, _, _, _] (c_X0_firstIn E _ _ _ _ _ _ _ _ (by omega)) rfl kX5_dropInto_X0_firstIn rfl rfl rfl rfl rfl rfl rfl (Nat.le_of_ble_eq_true rfl) (by decide) dX5_dropInto_66 rfl ?_
      refine j_istore_n 70 [_, _, _, _] dX5_dropInto_69 rfl (by decide) rfl ?_
      refine j_aload_n 2 71 dX5_dropInto_70 rfl rfl ?_
      refine j_get 0 4 7 74 in_X5_dropInto_X5 dX5_dropInto_71 rfl rfl rfl (by decide) rfl rfl ?_
      refine j_iload_n 3 75 dX5_dropInto_74 rfl rfl ?_
      refine j_zald 12 76 dX5_dropInto_75 rfl rfl (by decide) (by omega) ?_
      refine j_if_ne 116 79 dX5_dropInto_76 rfl (by decide) (by omega) (fun h_76 => ?_) (fun h_76 => ?_)
      · skip
        have e : sDrX x l = sClear (sPut x l (x 4 (2 * (2 + 2 * l)))) (2 + 2 * l) := by unfold sDrX; rw [if_pos h_16, if_neg (by omega), if_neg (by omega)]
        rw [e]
        refine j_aload_n 2 117 dX5_dropInto_116 rfl rfl ?_
        refine j_get 0 2 3 120 in_X5_dropInto_X5 dX5_dropInto_117 rfl rfl rfl (by decide) rfl rfl ?_
        refine j_iload_n 3 121 dX5_dropInto_120 rfl rfl ?_
        refine j_iload_n 0 122 dX5_dropInto_121 rfl rfl ?_
        refine j_callVv 8 [8, 9, 10] 125 [_, _, _, _, _, _, _, _, _, _, _, _, _] (c_X2_put E _ _ _ _ _ _ _ (by omega) (by omega)) rfl kX5_dropInto_X2_put rfl rfl rfl rfl rfl rfl rfl (Nat.le_of_ble_eq_true rfl) (by decide) dX5_dropInto_122 rfl ?_
        refine j_aload_n 2 126 dX5_dropInto_125 rfl rfl ?_
        refine j_get 0 1 1 129 in_X5_dropInto_X5 dX5_dropInto_126 rfl rfl rfl (by decide) rfl rfl ?_
        refine j_iload_n 1 130 dX5_dropInto_129 rfl rfl ?_
        refine j_callVv 4 [4, 5, 6, 7] 133 [_, _, _, _, _, _, _, _, _, _, _, _, _] (c_X0_clearCup E _ _ _ _ _ _ _ _ (by omega)) rfl kX5_dropInto_X0_clearCup rfl rfl rfl rfl rfl rfl rfl (Nat.le_of_ble_eq_true rfl) (by decide) dX5_dropInto_130 rfl ?_
        refine j_iconst 134 dX5_dropInto_133 rfl ?_
        exact j_iret dX5_dropInto_134 rfl (by rfl) (by rfl)
      · skip
        refine j_iload_n 0 80 dX5_dropInto_79 rfl rfl ?_
        refine j_callSi [] 83 [_, _, _, _, _, _, _, _, _, _, _, _, _] (c_X6_bruise E _ (by omega)) rfl kX5_dropInto_X6_bruise rfl rfl rfl rfl rfl (Nat.le_of_ble_eq_true rfl) (by decide) dX5_dropInto_80 rfl ?_
        refine j_bipush 85 dX5_dropInto_83 rfl (by decide) ?_
        refine j_icmp_ge 116 88 dX5_dropInto_85 rfl (by decide) (by omega) (by omega) (fun h_85 => ?_) (fun h_85 => ?_)
        · skip
          have e : sDrX x l = sClear (sPut x l (x 4 (2 * (2 + 2 * l)))) (2 + 2 * l) := by unfold sDrX; rw [if_pos h_16, if_neg (by omega), if_neg (by omega)]
          rw [e]
          refine j_aload_n 2 117 dX5_dropInto_116 rfl rfl ?_
          refine j_get 0 2 3 120 in_X5_dropInto_X5 dX5_dropInto_117 rfl rfl rfl (by decide) rfl rfl ?_
          refine j_iload_n 3 121 dX5_dropInto_120 rfl rfl ?_
          refine j_iload_n 0 122 dX5_dropInto_121 rfl rfl ?_
          refine j_callVv 8 [8, 9, 10] 125 [_, _, _, _, _, _, _, _, _, _, _, _, _] (c_X2_put E _ _ _ _ _ _ _ (by omega) (by omega)) rfl kX5_dropInto_X2_put rfl rfl rfl rfl rfl rfl rfl (Nat.le_of_ble_eq_true rfl) (by decide) dX5_dropInto_122 rfl ?_
          refine j_aload_n 2 126 dX5_dropInto_125 rfl rfl ?_
          refine j_get 0 1 1 129 in_X5_dropInto_X5 dX5_dropInto_126 rfl rfl rfl (by decide) rfl rfl ?_
          refine j_iload_n 1 130 dX5_dropInto_129 rfl rfl ?_
          refine j_callVv 4 [4, 5, 6, 7] 133 [_, _, _, _, _, _, _, _, _, _, _, _, _] (c_X0_clearCup E _ _ _ _ _ _ _ _ (by omega)) rfl kX5_dropInto_X0_clearCup rfl rfl rfl rfl rfl rfl rfl (Nat.le_of_ble_eq_true rfl) (by decide) dX5_dropInto_130 rfl ?_
          refine j_iconst 134 dX5_dropInto_133 rfl ?_
          exact j_iret dX5_dropInto_134 rfl (by rfl) (by rfl)
        · skip
          have e : sDrX x l = sClear (sPut (jS x 9 (jU (x 9) 5 (x 9 5 + 1))) l (sHurtT (x 4 (2 * (2 + 2 * l))))) (2 + 2 * l) := by unfold sDrX; rw [if_pos h_16, if_neg (by omega), if_pos (by omega)]
          rw [e]
          refine j_iload_n 0 89 dX5_dropInto_88 rfl rfl ?_
          refine j_callSi [] 92 [_, _, _, _, _, _, _, _, _, _, _, _, _] (c_X6_weight E _ (by omega)) rfl kX5_dropInto_X6_weight rfl rfl rfl rfl rfl (Nat.le_of_ble_eq_true rfl) (by decide) dX5_dropInto_89 rfl ?_
          refine j_iload_n 0 93 dX5_dropInto_92 rfl rfl ?_
          refine j_callSi [] 96 [_, _, _, _, _, _, _, _, _, _, _, _, _] (c_X6_red E _ (by omega)) rfl kX5_dropInto_X6_red rfl rfl rfl rfl rfl (Nat.le_of_ble_eq_true rfl) (by decide) dX5_dropInto_93 rfl ?_
          refine j_iload_n 0 97 dX5_dropInto_96 rfl rfl ?_
          refine j_callSi [] 100 [_, _, _, _, _, _, _, _, _, _, _, _, _] (c_X6_bruise E _ (by omega)) rfl kX5_dropInto_X6_bruise rfl rfl rfl rfl rfl (Nat.le_of_ble_eq_true rfl) (by decide) dX5_dropInto_97 rfl ?_
          refine j_iconst 101 dX5_dropInto_100 rfl ?_
          refine j_iadd 102 dX5_dropInto_101 rfl ?_
          refine j_callSi [] 105 [_, _, _, _, _, _, _, _, _, _, _, _, _] (c_X6_of E _ _ _ ) rfl kX5_dropInto_X6_of rfl rfl rfl rfl rfl (Nat.le_of_ble_eq_true rfl) (by decide) dX5_dropInto_102 rfl ?_
          refine j_istore_n 106 [_, _, _, _] dX5_dropInto_105 rfl (by decide) rfl ?_
          refine j_aload_n 2 107 dX5_dropInto_106 rfl rfl ?_
          refine j_dup 108 dX5_dropInto_107 rfl rfl ?_
          refine j_get 0 9 8 111 in_X5_dropInto_X5 dX5_dropInto_108 rfl rfl rfl (by decide) rfl rfl ?_
          refine j_iconst 112 dX5_dropInto_111 rfl ?_
          refine j_iadd 113 dX5_dropInto_112 rfl ?_
          refine j_put 0 9 8 116 [(_, .inr (_, [_, _, _, _, _, _, _, _, _, _, _])), _, _, _, _, _, _, _, _, _, _, _, _] tyX5 tyX5_ok nmX5 in_X5_dropInto_X5 dX5_dropInto_113 rfl rfl rfl (by decide) rfl rfl rfl rfl rfl (Nat.le_of_ble_eq_true rfl) rfl ?_
          refine j_aload_n 2 117 dX5_dropInto_116 rfl rfl ?_
          refine j_get 0 2 3 120 in_X5_dropInto_X5 dX5_dropInto_117 rfl rfl rfl (by decide) rfl rfl ?_
          refine j_iload_n 3 121 dX5_dropInto_120 rfl rfl ?_
          refine j_iload_n 0 122 dX5_dropInto_121 rfl rfl ?_
          refine j_callVv 8 [8, 9, 10] 125 [_, _, _, _, _, _, _, _, _, _, _, _, _] (c_X2_put E _ _ _ _ _ _ _ (by omega) (by omega)) rfl kX5_dropInto_X2_put rfl rfl rfl rfl rfl rfl rfl (Nat.le_of_ble_eq_true rfl) (by decide) dX5_dropInto_122 rfl ?_
          refine j_aload_n 2 126 dX5_dropInto_125 rfl rfl ?_
          refine j_get 0 1 1 129 in_X5_dropInto_X5 dX5_dropInto_126 rfl rfl rfl (by decide) rfl rfl ?_
          refine j_iload_n 1 130 dX5_dropInto_129 rfl rfl ?_
          refine j_callVv 4 [4, 5, 6, 7] 133 [_, _, _, _, _, _, _, _, _, _, _, _, _] (c_X0_clearCup E _ _ _ _ _ _ _ _ (by omega)) rfl kX5_dropInto_X0_clearCup rfl rfl rfl rfl rfl rfl rfl (Nat.le_of_ble_eq_true rfl) (by decide) dX5_dropInto_130 rfl ?_
          refine j_iconst 134 dX5_dropInto_133 rfl ?_
          exact j_iret dX5_dropInto_134 rfl (by rfl) (by rfl)
    · skip
      have e : sDrX x l = jS (jS x 3 (jU (x 3) (2 + 2 * l) 4)) 9 (jU (x 9) 3 (x 9 3 + 1)) := by unfold sDrX; rw [if_pos h_16, if_pos (by omega)]
      have e2 : sDrN x l = 0 := by unfold sDrN; rw [if_pos h_16, if_pos (by omega)]
      rw [e, e2]
      refine j_aload_n 1 40 dX5_dropInto_39 rfl rfl ?_
      refine j_get 0 1 1 43 in_X5_dropInto_X5 dX5_dropInto_40 rfl rfl rfl (by decide) rfl rfl ?_
      refine j_get 4 1 2 46 in_X5_dropInto_X0 dX5_dropInto_43 rfl rfl rfl (by decide) rfl rfl ?_
      refine j_iload_n 0 47 dX5_dropInto_46 rfl rfl ?_
      refine j_iconst 48 dX5_dropInto_47 rfl ?_
      refine j_iast 6 49 [_, _, _, _, _, _, _, _, _, _, _, _, _] dX5_dropInto_48 rfl rfl (by decide) (by omega) rfl ?_
      refine j_aload_n 1 50 dX5_dropInto_49 rfl rfl ?_
      refine j_dup 51 dX5_dropInto_50 rfl rfl ?_
      refine j_get 0 7 6 54 in_X5_dropInto_X5 dX5_dropInto_51 rfl rfl rfl (by decide) rfl rfl ?_
      refine j_iconst 55 dX5_dropInto_54 rfl ?_
      refine j_iadd 56 dX5_dropInto_55 rfl ?_
      refine j_put 0 7 6 59 [(_, .inr (_, [_, _, _, _, _, _, _, _, _, _, _])), _, _, _, _, _, _, _, _, _, _, _, _] tyX5 tyX5_ok nmX5 in_X5_dropInto_X5 dX5_dropInto_56 rfl rfl rfl (by decide) rfl rfl rfl rfl rfl (Nat.le_of_ble_eq_true rfl) rfl ?_
      refine j_iconst 60 dX5_dropInto_59 rfl ?_
      exact j_iret dX5_dropInto_60 rfl (by rfl) (by rfl)
  · skip
    have e : sDrX x l = x := if_neg h_16
    have e2 : sDrN x l = 0 := if_neg h_16
    rw [e, e2]
    refine j_iconst 20 dX5_dropInto_19 rfl ?_
    exact j_iret dX5_dropInto_20 rfl (by rfl) (by rfl)
set_option maxRecDepth 20000 in
theorem in_X5_tick_X5 : ∀ x ∈ u_ws RX5 TX5 11, x ∈ wsX5_tick := by decide +kernel
theorem kX5_tick_X5_gradeBelowEye : jKv mX5_tick 91 yX5_gradeBelowEye wsX5_gradeBelowEye rmX5_gradeBelowEye 0 := ⟨gX5_tick_X5_gradeBelowEye, ⟨_, _, _, _, rfl, by decide⟩, by decide +kernel, rfl, rfl, by decide⟩
theorem kX5_tick_X5_fallOut : jKv mX5_tick 94 yX5_fallOut wsX5_fallOut rmX5_fallOut 0 := ⟨gX5_tick_X5_fallOut, ⟨_, _, _, _, rfl, by decide⟩, by decide +kernel, rfl, rfl, by decide⟩
theorem kX5_tick_X0_move : jKv mX5_tick 98 yX0_move wsX0_move rmX0_move 0 := ⟨gX5_tick_X0_move, ⟨_, _, _, _, rfl, by decide⟩, by decide +kernel, rfl, rfl, by decide⟩
theorem kX5_tick_X5_dropInto : jKv mX5_tick 101 yX5_dropInto wsX5_dropInto rmX5_dropInto 1 := ⟨gX5_tick_X5_dropInto, ⟨_, _, _, _, rfl, by decide⟩, by decide +kernel, rfl, rfl, by decide⟩
set_option maxRecDepth 100000 in
set_option maxHeartbeats 4000000 in
theorem c_X5_tick (E : jE) (q : Nat → Nat) (x : Nat → Int → Int) (hx : sOK x) (h5 : x 5 4 + x 2 11 ≤ 512) : jMI E yX5_tick wsX5_tick rmX5_tick [.ref (q 0)] (wState E q x) (sTickN x) (wState E q (sTick x)) := by
  refine jMI_of (cc := cX5_tick) (maxL := 3) (ret := (some .int)) [(0, .ref (q 0))] (by decide) rfl rfl (Nat.le_of_ble_eq_true rfl) (fun C => ?_)
  show jG mX5_tick E C (jQi E C (sTickN x) (wState E q (sTick x))) 0 0 0 [(0, .ref (q 0))] [] (wState E q x)
  have r0 : ∀ i, 0 ≤ x 0 i ∧ x 0 i < 404000 := hx 0
  have r1 : ∀ i, 0 ≤ x 1 i ∧ x 1 i ≤ 3 := hx 1
  have r2 : ∀ i, 0 ≤ x 2 i ∧ x 2 i ≤ 2 := hx 2
  have r3 : ∀ i, -1 ≤ x 3 i ∧ x 3 i ≤ 4 := hx 3
  have r4 : ∀ i, 0 ≤ x 4 i ∧ x 4 i < 404000 := hx 4
  have r5 : ∀ i, 0 ≤ x 5 i ∧ x 5 i ≤ 512 ∧ (i < 4 → x 5 i ≤ 20) := hx 5
  have r6 : ∀ i, 0 ≤ x 6 i ∧ x 6 i < 404000 := hx 6
  have r7 : (-20 ≤ x 7 0 ∧ x 7 0 ≤ 20) ∧ (0 ≤ x 7 1 ∧ x 7 1 ≤ 9) ∧ (1 ≤ x 7 2 ∧ x 7 2 ≤ 20) := hx 7
  have r8 : ∀ i, x 8 i = 0 ∨ x 8 i = 1 := hx 8
  have r9 : 0 ≤ x 9 0 ∧ x 9 0 ≤ 8 := hx 9
  have o1 : sOK (jS x 9 (jU (x 9) 1 (x 9 1 + 1))) := sOK_9 hx (by omega)
  have o2 := sOK_grade o1
  have o3 := sOK_t3 hx h5
  have e2 : sGrade (jS x 9 (jU (x 9) 1 (x 9 1 + 1))) 2 = x 2 := sGrade_2 _
  have e5 : sGrade (jS x 9 (jU (x 9) 1 (x 9 1 + 1))) 5 = x 5 := sGrade_ne _ (by omega) (by omega)
  refine j_aload_n 0 1 dX5_tick_0 rfl rfl ?_
  refine j_dup 2 dX5_tick_1 rfl rfl ?_
  refine j_get 0 5 1 5 in_X5_tick_X5 dX5_tick_2 rfl rfl rfl (by decide) rfl rfl ?_
  refine j_iconst 6 dX5_tick_5 rfl ?_
  refine j_iadd 7 dX5_tick_6 rfl ?_
  refine j_put 0 5 1 10 [(_, .inr (_, [_, _, _, _, _, _, _, _, _, _, _])), _, _, _, _, _, _, _, _, _, _, _, _] tyX5 tyX5_ok nmX5 in_X5_tick_X5 dX5_tick_7 rfl rfl rfl (by decide) rfl rfl rfl rfl rfl (Nat.le_of_ble_eq_true rfl) rfl ?_
  refine j_aload_n 0 11 dX5_tick_10 rfl rfl ?_
  refine j_callVv 0 [0, 1, 2, 3, 4, 5, 6, 7, 8, 9, 10, 11, 12] 14 [_, _, _, _, _, _, _, _, _, _, _, _, _] (c_X5_gradeBelowEye E q (jS x 9 (jU (x 9) 1 (x 9 1 + 1))) (by exact o1)) rfl kX5_tick_X5_gradeBelowEye rfl rfl rfl rfl rfl rfl rfl (Nat.le_of_ble_eq_true rfl) (by decide) dX5_tick_11 rfl ?_
  refine j_aload_n 0 15 dX5_tick_14 rfl rfl ?_
  refine j_callVi 0 [0, 1, 2, 3, 4, 5, 6, 7, 8, 9, 10, 11, 12] 18 [_, _, _, _, _, _, _, _, _, _, _, _, _] (c_X5_fallOut E q (sGrade (jS x 9 (jU (x 9) 1 (x 9 1 + 1)))) (by exact o2) (by rw [e2, e5]; exact h5)) rfl kX5_tick_X5_fallOut rfl rfl rfl rfl rfl rfl rfl (Nat.le_of_ble_eq_true rfl) (by decide) dX5_tick_15 rfl ?_
  refine j_istore_n 19 [_, _] dX5_tick_18 rfl (by decide) rfl ?_
  refine j_aload_n 1 20 dX5_tick_19 rfl rfl ?_
  refine j_get 0 1 2 23 in_X5_tick_X5 dX5_tick_20 rfl rfl rfl (by decide) rfl rfl ?_
  refine j_callVv 4 [4, 5, 6, 7] 26 [_, _, _, _, _, _, _, _, _, _, _, _, _] (c_X0_move E _ _ _ _ _ _ _ ) rfl kX5_tick_X0_move rfl rfl rfl rfl rfl rfl rfl (Nat.le_of_ble_eq_true rfl) (by decide) dX5_tick_23 rfl ?_
  refine j_iconst 27 dX5_tick_26 rfl ?_
  refine j_istore_n 28 [_, _, _] dX5_tick_27 rfl (by decide) rfl ?_
  have key28 : ∀ (fu i : Nat), 4 < i + fu → i ≤ 4 → jG mX5_tick E C (jQi E C (sTickN x) (wState E q (sTick x))) 0 0 28 [(0, .ref (q 0)), (1, .int (jI (sGrade (jS x 9 (jU (x 9) 1 (x 9 1 + 1))) 2 11 + (sDs (sT3 x) i).2))), (2, .int (jI (i : Int)))] [] (wState E q (sDs (sT3 x) i).1) := by
    intro fu
    induction fu with
    | zero => intro i h1 h2; exact absurd h1 (by omega)
    | succ fu ih =>
      intro i h1 h2
      have ok := sOK_ds o3 i h2
      refine j_iload_n 2 29 dX5_tick_28 rfl rfl ?_
      refine j_iconst 30 dX5_tick_29 rfl ?_
      refine j_icmp_ge 47 33 dX5_tick_30 rfl (by decide) (by omega) (by omega) (fun h_30 => ?_) (fun h_30 => ?_)
      · skip
        obtain rfl : i = 4 := by omega
        refine j_iload_n 1 48 dX5_tick_47 rfl rfl ?_
        exact j_iret dX5_tick_48 rfl (by rw [e2]; rfl) (by rfl)
      · skip
        refine j_iload_n 1 34 dX5_tick_33 rfl rfl ?_
        refine j_aload_n 0 35 dX5_tick_34 rfl rfl ?_
        refine j_iload_n 2 36 dX5_tick_35 rfl rfl ?_
        refine j_callVi 0 [0, 1, 2, 3, 4, 5, 6, 7, 8, 9, 10, 11, 12] 39 [_, _, _, _, _, _, _, _, _, _, _, _, _] (c_X5_dropInto E q (sDs (sT3 x) i).1 _ (by exact ok) (by omega)) rfl kX5_tick_X5_dropInto rfl rfl rfl rfl rfl rfl rfl (Nat.le_of_ble_eq_true rfl) (by decide) dX5_tick_36 rfl ?_
        refine j_iadd 40 dX5_tick_39 rfl ?_
        refine j_istore_n 41 [_, _, _] dX5_tick_40 rfl (by decide) rfl ?_
        refine j_iinc 2 44 [_, _, _] dX5_tick_41 rfl rfl (by decide) rfl ?_
        refine j_goto 28 dX5_tick_44 (by decide) ?_
        refine j_perm [2, 1, 0] rfl ?_
        have k := ih (i + 1) (by omega) (by omega)
        rw [show sGrade (jS x 9 (jU (x 9) 1 (x 9 1 + 1))) 2 11 + (sDs (sT3 x) (i + 1)).2 = sGrade (jS x 9 (jU (x 9) 1 (x 9 1 + 1))) 2 11 + (sDs (sT3 x) i).2 + sDrN (sDs (sT3 x) i).1 i from by rw [Int.add_assoc]; rfl] at k
        exact k
  refine j_perm [2, 1, 0] rfl ?_
  have k := key28 5 0 (by omega) (by omega)
  rw [show sGrade (jS x 9 (jU (x 9) 1 (x 9 1 + 1))) 2 11 + (sDs (sT3 x) 0).2 = sGrade (jS x 9 (jU (x 9) 1 (x 9 1 + 1))) 2 11 from Int.add_zero _] at k
  exact k
set_option maxRecDepth 20000 in
theorem in_X5_ticksToFall_X5 : ∀ x ∈ u_ws RX5 TX5 11, x ∈ wsX5_ticksToFall := by decide +kernel
set_option maxRecDepth 20000 in
theorem in_X5_ticksToFall_X0 : ∀ x ∈ u_ws RX0 TX0 3, x ∈ wsX5_ticksToFall := by decide +kernel
theorem kX5_ticksToFall_X5_dropPlace : jKv mX5_ticksToFall 127 yX5_dropPlace wsX5_dropPlace rmX5_dropPlace 1 := ⟨gX5_ticksToFall_X5_dropPlace, ⟨_, _, _, _, rfl, by decide⟩, by decide +kernel, rfl, rfl, by decide⟩
theorem kX5_ticksToFall_X5_gradeToCome : jKv mX5_ticksToFall 108 yX5_gradeToCome wsX5_gradeToCome rmX5_gradeToCome 0 := ⟨gX5_ticksToFall_X5_gradeToCome, ⟨_, _, _, _, rfl, by decide⟩, by decide +kernel, rfl, rfl, by decide⟩
set_option maxRecDepth 100000 in
set_option maxHeartbeats 4000000 in
theorem c_X5_ticksToFall (E : jE) (q : Nat → Nat) (x : Nat → Int → Int) (p : Int) (hx : sOK x) (hp : 0 ≤ p ∧ p < 12) : jMI E yX5_ticksToFall wsX5_ticksToFall rmX5_ticksToFall [.ref (q 0), .int (jI p)] (wState E q x) (sTtf x p) (wState E q x) := by
  refine jMI_of (cc := cX5_ticksToFall) (maxL := 3) (ret := (some .int)) [(0, .ref (q 0)), (1, .int (jI p))] (by decide) rfl rfl (Nat.le_of_ble_eq_true rfl) (fun C => ?_)
  show jG mX5_ticksToFall E C (jQi E C (sTtf x p) (wState E q x)) 0 0 0 [(0, .ref (q 0)), (1, .int (jI p))] [] (wState E q x)
  have r0 : ∀ i, 0 ≤ x 0 i ∧ x 0 i < 404000 := hx 0
  have r1 : ∀ i, 0 ≤ x 1 i ∧ x 1 i ≤ 3 := hx 1
  have r2 : ∀ i, 0 ≤ x 2 i ∧ x 2 i ≤ 2 := hx 2
  have r3 : ∀ i, -1 ≤ x 3 i ∧ x 3 i ≤ 4 := hx 3
  have r4 : ∀ i, 0 ≤ x 4 i ∧ x 4 i < 404000 := hx 4
  have r5 : ∀ i, 0 ≤ x 5 i ∧ x 5 i ≤ 512 ∧ (i < 4 → x 5 i ≤ 20) := hx 5
  have r6 : ∀ i, 0 ≤ x 6 i ∧ x 6 i < 404000 := hx 6
  have r7 : (-20 ≤ x 7 0 ∧ x 7 0 ≤ 20) ∧ (0 ≤ x 7 1 ∧ x 7 1 ≤ 9) ∧ (1 ≤ x 7 2 ∧ x 7 2 ≤ 20) := hx 7
  have r8 : ∀ i, x 8 i = 0 ∨ x 8 i = 1 := hx 8
  have r9 : 0 ≤ x 9 0 ∧ x 9 0 ≤ 8 := hx 9
  have r2p := r2 p
  have r3p := r3 p
  have gg := sGtc_rng hx
  refine j_aload_n 0 1 dX5_ticksToFall_0 rfl rfl ?_
  refine j_get 0 1 1 4 in_X5_ticksToFall_X5 dX5_ticksToFall_1 rfl rfl rfl (by decide) rfl rfl ?_
  refine j_get 4 0 2 7 in_X5_ticksToFall_X0 dX5_ticksToFall_4 rfl rfl rfl (by decide) rfl rfl ?_
  refine j_iload_n 1 8 dX5_ticksToFall_7 rfl rfl ?_
  refine j_iald 5 9 dX5_ticksToFall_8 rfl rfl (by decide) (by omega) ?_
  refine j_if_ne 15 12 dX5_ticksToFall_9 rfl (by decide) (by omega) (fun h_9 => ?_) (fun h_9 => ?_)
  · skip
    have e : sTtf x p = (if (if p = 0 then sGtc x else x 3 p) = 4 then 12 else 2 + 2 * (if p = 0 then sGtc x else x 3 p)) - p := if_neg h_9
    rw [e]
    refine j_iload_n 1 16 dX5_ticksToFall_15 rfl rfl ?_
    refine j_if_ne 26 19 dX5_ticksToFall_16 rfl (by decide) (by omega) (fun h_16 => ?_) (fun h_16 => ?_)
    · skip
      rw [if_neg h_16]
      refine j_aload_n 0 27 dX5_ticksToFall_26 rfl rfl ?_
      refine j_get 0 1 1 30 in_X5_ticksToFall_X5 dX5_ticksToFall_27 rfl rfl rfl (by decide) rfl rfl ?_
      refine j_get 4 1 3 33 in_X5_ticksToFall_X0 dX5_ticksToFall_30 rfl rfl rfl (by decide) rfl rfl ?_
      refine j_iload_n 1 34 dX5_ticksToFall_33 rfl rfl ?_
      refine j_iald 6 35 dX5_ticksToFall_34 rfl rfl (by decide) (by omega) ?_
      refine j_istore_n 36 [_, _, _] dX5_ticksToFall_35 rfl (by decide) rfl ?_
      refine j_iload_n 0 37 dX5_ticksToFall_36 rfl rfl ?_
      refine j_iconst 38 dX5_ticksToFall_37 rfl ?_
      refine j_icmp_ne 46 41 dX5_ticksToFall_38 rfl (by decide) (by omega) (by omega) (fun h_38 => ?_) (fun h_38 => ?_)
      · skip
        rw [if_neg h_38]
        refine j_aload_n 1 47 dX5_ticksToFall_46 rfl rfl ?_
        refine j_iload_n 0 48 dX5_ticksToFall_47 rfl rfl ?_
        refine j_callVi 0 [0, 1, 2, 3, 4, 5, 6, 7, 8, 9, 10, 11, 12] 51 [_, _, _, _, _, _, _, _, _, _, _, _, _] (c_X5_dropPlace E _ _ _ ) rfl kX5_ticksToFall_X5_dropPlace rfl rfl rfl rfl rfl rfl rfl (Nat.le_of_ble_eq_true rfl) (by decide) dX5_ticksToFall_48 rfl ?_
        refine j_iload_n 2 52 dX5_ticksToFall_51 rfl rfl ?_
        refine j_isub 53 dX5_ticksToFall_52 rfl ?_
        exact j_iret dX5_ticksToFall_53 rfl (by rfl) (by rfl)
      · skip
        rw [if_pos h_38]
        refine j_bipush 43 dX5_ticksToFall_41 rfl (by decide) ?_
        refine j_goto 51 dX5_ticksToFall_43 (by decide) ?_
        refine j_iload_n 2 52 dX5_ticksToFall_51 rfl rfl ?_
        refine j_isub 53 dX5_ticksToFall_52 rfl ?_
        exact j_iret dX5_ticksToFall_53 rfl (by rfl) (by rfl)
    · skip
      rw [if_pos h_16]
      refine j_aload_n 0 20 dX5_ticksToFall_19 rfl rfl ?_
      refine j_callVi 0 [0, 1, 2, 3, 4, 5, 6, 7, 8, 9, 10, 11, 12] 23 [_, _, _, _, _, _, _, _, _, _, _, _, _] (c_X5_gradeToCome E _ _ (by exact hx)) rfl kX5_ticksToFall_X5_gradeToCome rfl rfl rfl rfl rfl rfl rfl (Nat.le_of_ble_eq_true rfl) (by decide) dX5_ticksToFall_20 rfl ?_
      refine j_goto 35 dX5_ticksToFall_23 (by decide) ?_
      refine j_istore_n 36 [_, _, _] dX5_ticksToFall_35 rfl (by decide) rfl ?_
      refine j_iload_n 0 37 dX5_ticksToFall_36 rfl rfl ?_
      refine j_iconst 38 dX5_ticksToFall_37 rfl ?_
      refine j_icmp_ne 46 41 dX5_ticksToFall_38 rfl (by decide) (by omega) (by omega) (fun h_38 => ?_) (fun h_38 => ?_)
      · skip
        rw [if_neg h_38]
        refine j_aload_n 1 47 dX5_ticksToFall_46 rfl rfl ?_
        refine j_iload_n 0 48 dX5_ticksToFall_47 rfl rfl ?_
        refine j_callVi 0 [0, 1, 2, 3, 4, 5, 6, 7, 8, 9, 10, 11, 12] 51 [_, _, _, _, _, _, _, _, _, _, _, _, _] (c_X5_dropPlace E _ _ _ ) rfl kX5_ticksToFall_X5_dropPlace rfl rfl rfl rfl rfl rfl rfl (Nat.le_of_ble_eq_true rfl) (by decide) dX5_ticksToFall_48 rfl ?_
        refine j_iload_n 2 52 dX5_ticksToFall_51 rfl rfl ?_
        refine j_isub 53 dX5_ticksToFall_52 rfl ?_
        exact j_iret dX5_ticksToFall_53 rfl (by rfl) (by rfl)
      · skip
        rw [if_pos h_38]
        refine j_bipush 43 dX5_ticksToFall_41 rfl (by decide) ?_
        refine j_goto 51 dX5_ticksToFall_43 (by decide) ?_
        refine j_iload_n 2 52 dX5_ticksToFall_51 rfl rfl ?_
        refine j_isub 53 dX5_ticksToFall_52 rfl ?_
        exact j_iret dX5_ticksToFall_53 rfl (by rfl) (by rfl)
  · skip
    have e : sTtf x p = -4 := if_pos h_9
    rw [e]
    refine j_bipush 14 dX5_ticksToFall_12 rfl (by decide) ?_
    exact j_iret dX5_ticksToFall_14 rfl (by rfl) (by rfl)
set_option maxRecDepth 20000 in
theorem in_X5_isWrong_X5 : ∀ x ∈ u_ws RX5 TX5 11, x ∈ wsX5_isWrong := by decide +kernel
theorem kX5_isWrong_X1_laneFromFirst : jKv mX5_isWrong 117 yX1_laneFromFirst wsX1_laneFromFirst rmX1_laneFromFirst 1 := ⟨gX5_isWrong_X1_laneFromFirst, ⟨_, _, _, _, rfl, by decide⟩, by decide +kernel, rfl, rfl, by decide⟩
set_option maxRecDepth 100000 in
set_option maxHeartbeats 4000000 in
theorem c_X5_isWrong (E : jE) (q : Nat → Nat) (x : Nat → Int → Int) (l t : Int) (hx : sOK x) (hl : 0 ≤ l ∧ l ≤ 4) (ht : 0 ≤ t ∧ t < 404000) : jMI E yX5_isWrong wsX5_isWrong rmX5_isWrong [.ref (q 0), .int (jI l), .int (jI t)] (wState E q x) (sWr x l t) (wState E q x) := by
  refine jMI_of (cc := cX5_isWrong) (maxL := 3) (ret := (some .boolean)) [(0, .ref (q 0)), (1, .int (jI l)), (2, .int (jI t))] (by decide) rfl rfl (Nat.le_of_ble_eq_true rfl) (fun C => ?_)
  show jG mX5_isWrong E C (jQi E C (sWr x l t) (wState E q x)) 0 0 0 [(0, .ref (q 0)), (1, .int (jI l)), (2, .int (jI t))] [] (wState E q x)
  have r0 : ∀ i, 0 ≤ x 0 i ∧ x 0 i < 404000 := hx 0
  have r1 : ∀ i, 0 ≤ x 1 i ∧ x 1 i ≤ 3 := hx 1
  have r2 : ∀ i, 0 ≤ x 2 i ∧ x 2 i ≤ 2 := hx 2
  have r3 : ∀ i, -1 ≤ x 3 i ∧ x 3 i ≤ 4 := hx 3
  have r4 : ∀ i, 0 ≤ x 4 i ∧ x 4 i < 404000 := hx 4
  have r5 : ∀ i, 0 ≤ x 5 i ∧ x 5 i ≤ 512 ∧ (i < 4 → x 5 i ≤ 20) := hx 5
  have r6 : ∀ i, 0 ≤ x 6 i ∧ x 6 i < 404000 := hx 6
  have r7 : (-20 ≤ x 7 0 ∧ x 7 0 ≤ 20) ∧ (0 ≤ x 7 1 ∧ x 7 1 ≤ 9) ∧ (1 ≤ x 7 2 ∧ x 7 2 ≤ 20) := hx 7
  have r8 : ∀ i, x 8 i = 0 ∨ x 8 i = 1 := hx 8
  have r9 : 0 ≤ x 9 0 ∧ x 9 0 ≤ 8 := hx 9
  have gl := sLn_rng hx t
  have e0 : lnF (x 0) (x 1) t (x 9 0).toNat 0 = sLn x t := rfl
  refine j_iload_n 1 1 dX5_isWrong_0 rfl rfl ?_
  refine j_iconst 2 dX5_isWrong_1 rfl ?_
  refine j_icmp_eq 21 5 dX5_isWrong_2 rfl (by decide) (by omega) (by omega) (fun h_2 => ?_) (fun h_2 => ?_)
  · skip
    have e : sWr x l t = 0 := if_pos h_2
    rw [e]
    refine j_iconst 22 dX5_isWrong_21 rfl ?_
    exact j_zret dX5_isWrong_22 rfl (by rfl) (by decide) (by rfl)
  · skip
    refine j_aload_n 0 6 dX5_isWrong_5 rfl rfl ?_
    refine j_get 0 0 1 9 in_X5_isWrong_X5 dX5_isWrong_6 rfl rfl rfl (by decide) rfl rfl ?_
    refine j_iload_n 2 10 dX5_isWrong_9 rfl rfl ?_
    refine j_callVi 1 [1, 2, 3] 13 [_, _, _, _, _, _, _, _, _, _, _, _, _] (c_X1_laneFromFirst E _ _ _ _ _ _ _ (by omega) (by intro i; have := r0 i; omega) (by omega)) rfl kX5_isWrong_X1_laneFromFirst rfl rfl rfl rfl rfl rfl rfl (Nat.le_of_ble_eq_true rfl) (by decide) dX5_isWrong_10 rfl ?_
    refine j_iload_n 1 14 dX5_isWrong_13 rfl rfl ?_
    have e : sWr x l t = if sLn x t = l then 0 else 1 := if_neg h_2
    refine j_icmp_eq 21 17 dX5_isWrong_14 rfl (by decide) (by omega) (by omega) (fun h_14 => ?_) (fun h_14 => ?_)
    · skip
      rw [if_pos (by omega)] at e
      rw [e]
      refine j_iconst 22 dX5_isWrong_21 rfl ?_
      exact j_zret dX5_isWrong_22 rfl (by rfl) (by decide) (by rfl)
    · skip
      rw [if_neg (by omega)] at e
      rw [e]
      refine j_iconst 18 dX5_isWrong_17 rfl ?_
      refine j_goto 22 dX5_isWrong_18 (by decide) ?_
      exact j_zret dX5_isWrong_22 rfl (by rfl) (by decide) (by rfl)
set_option maxRecDepth 20000 in
theorem in_X5_wrongIn_X5 : ∀ x ∈ u_ws RX5 TX5 11, x ∈ wsX5_wrongIn := by decide +kernel
set_option maxRecDepth 20000 in
theorem in_X5_wrongIn_X2 : ∀ x ∈ u_ws RX2 TX2 2, x ∈ wsX5_wrongIn := by decide +kernel
theorem kX5_wrongIn_X2_appleAt : jKv mX5_wrongIn 133 yX2_appleAt wsX2_appleAt rmX2_appleAt 2 := ⟨gX5_wrongIn_X2_appleAt, ⟨_, _, _, _, rfl, by decide⟩, by decide +kernel, rfl, rfl, by decide⟩
theorem kX5_wrongIn_X5_isWrong : jKv mX5_wrongIn 136 yX5_isWrong wsX5_isWrong rmX5_isWrong 2 := ⟨gX5_wrongIn_X5_isWrong, ⟨_, _, _, _, rfl, by decide⟩, by decide +kernel, rfl, rfl, by decide⟩
set_option maxRecDepth 100000 in
set_option maxHeartbeats 4000000 in
theorem c_X5_wrongIn (E : jE) (q : Nat → Nat) (x : Nat → Int → Int) (l : Int) (hx : sOK x) (hl : 0 ≤ l ∧ l ≤ 4) : jMI E yX5_wrongIn wsX5_wrongIn rmX5_wrongIn [.ref (q 0), .int (jI l)] (wState E q x) (sWi x l) (wState E q x) := by
  refine jMI_of (cc := cX5_wrongIn) (maxL := 4) (ret := (some .int)) [(0, .ref (q 0)), (1, .int (jI l))] (by decide) rfl rfl (Nat.le_of_ble_eq_true rfl) (fun C => ?_)
  show jG mX5_wrongIn E C (jQi E C (sWi x l) (wState E q x)) 0 0 0 [(0, .ref (q 0)), (1, .int (jI l))] [] (wState E q x)
  have r0 : ∀ i, 0 ≤ x 0 i ∧ x 0 i < 404000 := hx 0
  have r1 : ∀ i, 0 ≤ x 1 i ∧ x 1 i ≤ 3 := hx 1
  have r2 : ∀ i, 0 ≤ x 2 i ∧ x 2 i ≤ 2 := hx 2
  have r3 : ∀ i, -1 ≤ x 3 i ∧ x 3 i ≤ 4 := hx 3
  have r4 : ∀ i, 0 ≤ x 4 i ∧ x 4 i < 404000 := hx 4
  have r5 : ∀ i, 0 ≤ x 5 i ∧ x 5 i ≤ 512 ∧ (i < 4 → x 5 i ≤ 20) := hx 5
  have r6 : ∀ i, 0 ≤ x 6 i ∧ x 6 i < 404000 := hx 6
  have r7 : (-20 ≤ x 7 0 ∧ x 7 0 ≤ 20) ∧ (0 ≤ x 7 1 ∧ x 7 1 ≤ 9) ∧ (1 ≤ x 7 2 ∧ x 7 2 ≤ 20) := hx 7
  have r8 : ∀ i, x 8 i = 0 ∨ x 8 i = 1 := hx 8
  have r9 : 0 ≤ x 9 0 ∧ x 9 0 ≤ 8 := hx 9
  have r5l := r5 l
  refine j_iconst 1 dX5_wrongIn_0 rfl ?_
  refine j_istore_n 2 [_, _, _] dX5_wrongIn_1 rfl (by decide) rfl ?_
  refine j_iconst 3 dX5_wrongIn_2 rfl ?_
  refine j_istore_n 4 [_, _, _, _] dX5_wrongIn_3 rfl (by decide) rfl ?_
  have key4 : ∀ (fu i : Nat), (x 5 l).toNat < i + fu → (i : Int) ≤ x 5 l → jG mX5_wrongIn E C (jQi E C (sWi x l) (wState E q x)) 0 0 4 [(0, .ref (q 0)), (1, .int (jI l)), (2, .int (jI (jSum (fun i => sWr x l (x 6 (l * 20 + i))) i))), (3, .int (jI (i : Int)))] [] (wState E q x) := by
    intro fu
    induction fu with
    | zero => intro i h1 h2; exact absurd h1 (by omega)
    | succ fu ih =>
      intro i h1 h2
      have w01 := sWr_01 x l (x 6 (l * 20 + i))
      refine j_iload_n 3 5 dX5_wrongIn_4 rfl rfl ?_
      refine j_aload_n 0 6 dX5_wrongIn_5 rfl rfl ?_
      refine j_get 0 2 1 9 in_X5_wrongIn_X5 dX5_wrongIn_6 rfl rfl rfl (by decide) rfl rfl ?_
      refine j_get 8 0 2 12 in_X5_wrongIn_X2 dX5_wrongIn_9 rfl rfl rfl (by decide) rfl rfl ?_
      refine j_iload_n 1 13 dX5_wrongIn_12 rfl rfl ?_
      refine j_iald 9 14 dX5_wrongIn_13 rfl rfl (by decide) (by omega) ?_
      refine j_icmp_ge 43 17 dX5_wrongIn_14 rfl (by decide) (by omega) (by omega) (fun h_14 => ?_) (fun h_14 => ?_)
      · skip
        obtain rfl : i = (x 5 l).toNat := by omega
        refine j_iload_n 2 44 dX5_wrongIn_43 rfl rfl ?_
        exact j_iret dX5_wrongIn_44 rfl (by rfl) (by rfl)
      · skip
        refine j_aload_n 0 18 dX5_wrongIn_17 rfl rfl ?_
        refine j_iload_n 1 19 dX5_wrongIn_18 rfl rfl ?_
        refine j_aload_n 0 20 dX5_wrongIn_19 rfl rfl ?_
        refine j_get 0 2 1 23 in_X5_wrongIn_X5 dX5_wrongIn_20 rfl rfl rfl (by decide) rfl rfl ?_
        refine j_iload_n 1 24 dX5_wrongIn_23 rfl rfl ?_
        refine j_iload_n 3 25 dX5_wrongIn_24 rfl rfl ?_
        refine j_callVi 8 [8, 9, 10] 28 [_, _, _, _, _, _, _, _, _, _, _, _, _] (c_X2_appleAt E _ _ _ _ _ _ _ (by omega)) rfl kX5_wrongIn_X2_appleAt rfl rfl rfl rfl rfl rfl rfl (Nat.le_of_ble_eq_true rfl) (by decide) dX5_wrongIn_25 rfl ?_
        refine j_callVi 0 [0, 1, 2, 3, 4, 5, 6, 7, 8, 9, 10, 11, 12] 31 [_, _, _, _, _, _, _, _, _, _, _, _, _] (c_X5_isWrong E _ _ _ _ (by exact hx) (by omega) (by exact r6 _)) rfl kX5_wrongIn_X5_isWrong rfl rfl rfl rfl rfl rfl rfl (Nat.le_of_ble_eq_true rfl) (by decide) dX5_wrongIn_28 rfl ?_
        refine j_if_eq 37 34 dX5_wrongIn_31 rfl (by decide) (by omega) (fun h_31 => ?_) (fun h_31 => ?_)
        · skip
          refine j_iinc 3 40 [_, _, _, _] dX5_wrongIn_37 rfl rfl (by decide) rfl ?_
          refine j_goto 4 dX5_wrongIn_40 (by decide) ?_
          refine j_perm [1, 2, 3, 0] rfl ?_
          have e : jSum (fun i => sWr x l (x 6 (l * 20 + i))) (i + 1) = jSum (fun i => sWr x l (x 6 (l * 20 + i))) i + sWr x l (x 6 (l * 20 + i)) := rfl
          have g := ih (i + 1) (by omega) (by omega)
          rw [e] at g
          first
            | (rw [h_31, Int.add_zero] at g; exact g)
            | (rw [show sWr x l (x 6 (l * 20 + i)) = 1 by omega] at g; exact g)
        · skip
          refine j_iinc 2 37 [_, _, _, _] dX5_wrongIn_34 rfl rfl (by decide) rfl ?_
          refine j_iinc 3 40 [_, _, _, _] dX5_wrongIn_37 rfl rfl (by decide) rfl ?_
          refine j_goto 4 dX5_wrongIn_40 (by decide) ?_
          refine j_perm [2, 3, 1, 0] rfl ?_
          have e : jSum (fun i => sWr x l (x 6 (l * 20 + i))) (i + 1) = jSum (fun i => sWr x l (x 6 (l * 20 + i))) i + sWr x l (x 6 (l * 20 + i)) := rfl
          have g := ih (i + 1) (by omega) (by omega)
          rw [e] at g
          first
            | (rw [h_31, Int.add_zero] at g; exact g)
            | (rw [show sWr x l (x 6 (l * 20 + i)) = 1 by omega] at g; exact g)
  refine j_perm [2, 3, 1, 0] rfl ?_
  exact key4 ((x 5 l).toNat + 1) 0 (by omega) (by omega)
theorem kX5_wrongInAll_X5_wrongIn : jKv mX5_wrongInAll 140 yX5_wrongIn wsX5_wrongIn rmX5_wrongIn 1 := ⟨gX5_wrongInAll_X5_wrongIn, ⟨_, _, _, _, rfl, by decide⟩, by decide +kernel, rfl, rfl, by decide⟩
set_option maxRecDepth 100000 in
set_option maxHeartbeats 4000000 in
theorem c_X5_wrongInAll (E : jE) (q : Nat → Nat) (x : Nat → Int → Int) (hx : sOK x) : jMI E yX5_wrongInAll wsX5_wrongInAll rmX5_wrongInAll [.ref (q 0)] (wState E q x) (sWa x) (wState E q x) := by
  refine jMI_of (cc := cX5_wrongInAll) (maxL := 3) (ret := (some .int)) [(0, .ref (q 0))] (by decide) rfl rfl (Nat.le_of_ble_eq_true rfl) (fun C => ?_)
  show jG mX5_wrongInAll E C (jQi E C (sWa x) (wState E q x)) 0 0 0 [(0, .ref (q 0))] [] (wState E q x)
  refine j_iconst 1 dX5_wrongInAll_0 rfl ?_
  refine j_istore_n 2 [_, _] dX5_wrongInAll_1 rfl (by decide) rfl ?_
  refine j_iconst 3 dX5_wrongInAll_2 rfl ?_
  refine j_istore_n 4 [_, _, _] dX5_wrongInAll_3 rfl (by decide) rfl ?_
  have key4 : ∀ (fu i : Nat), 4 < i + fu → i ≤ 4 → jG mX5_wrongInAll E C (jQi E C (sWa x) (wState E q x)) 0 0 4 [(0, .ref (q 0)), (1, .int (jI (jSum (sWi x) i))), (2, .int (jI (i : Int)))] [] (wState E q x) := by
    intro fu
    induction fu with
    | zero => intro i h1 h2; exact absurd h1 (by omega)
    | succ fu ih =>
      intro i h1 h2
      refine j_iload_n 2 5 dX5_wrongInAll_4 rfl rfl ?_
      refine j_iconst 6 dX5_wrongInAll_5 rfl ?_
      refine j_icmp_ge 23 9 dX5_wrongInAll_6 rfl (by decide) (by omega) (by omega) (fun h_6 => ?_) (fun h_6 => ?_)
      · skip
        obtain rfl : i = 4 := by omega
        refine j_iload_n 1 24 dX5_wrongInAll_23 rfl rfl ?_
        exact j_iret dX5_wrongInAll_24 rfl (by rfl) (by rfl)
      · skip
        refine j_iload_n 1 10 dX5_wrongInAll_9 rfl rfl ?_
        refine j_aload_n 0 11 dX5_wrongInAll_10 rfl rfl ?_
        refine j_iload_n 2 12 dX5_wrongInAll_11 rfl rfl ?_
        refine j_callVi 0 [0, 1, 2, 3, 4, 5, 6, 7, 8, 9, 10, 11, 12] 15 [_, _, _, _, _, _, _, _, _, _, _, _, _] (c_X5_wrongIn E _ _ _ (by exact hx) (by omega)) rfl kX5_wrongInAll_X5_wrongIn rfl rfl rfl rfl rfl rfl rfl (Nat.le_of_ble_eq_true rfl) (by decide) dX5_wrongInAll_12 rfl ?_
        refine j_iadd 16 dX5_wrongInAll_15 rfl ?_
        refine j_istore_n 17 [_, _, _] dX5_wrongInAll_16 rfl (by decide) rfl ?_
        refine j_iinc 2 20 [_, _, _] dX5_wrongInAll_17 rfl rfl (by decide) rfl ?_
        refine j_goto 4 dX5_wrongInAll_20 (by decide) ?_
        refine j_perm [2, 1, 0] rfl ?_
        exact ih (i + 1) (by omega) (by omega)
  refine j_perm [2, 1, 0] rfl ?_
  exact key4 5 0 (by omega) (by omega)
set_option maxRecDepth 20000 in
theorem in_X5_copyFrom_X5 : ∀ x ∈ u_ws RX5 TX5 11, x ∈ wsX5_copyFrom := by decide +kernel
theorem kX5_copyFrom_X1_copyFrom : jKv mX5_copyFrom 143 yX1_copyFrom wsX1_copyFrom rmX1_copyFrom 1 := ⟨gX5_copyFrom_X1_copyFrom, ⟨_, _, _, _, rfl, by decide⟩, by decide +kernel, rfl, rfl, by decide⟩
theorem kX5_copyFrom_X0_copyFrom : jKv mX5_copyFrom 147 yX0_copyFrom wsX0_copyFrom rmX0_copyFrom 1 := ⟨gX5_copyFrom_X0_copyFrom, ⟨_, _, _, _, rfl, by decide⟩, by decide +kernel, rfl, rfl, by decide⟩
theorem kX5_copyFrom_X2_copyFrom : jKv mX5_copyFrom 150 yX2_copyFrom wsX2_copyFrom rmX2_copyFrom 1 := ⟨gX5_copyFrom_X2_copyFrom, ⟨_, _, _, _, rfl, by decide⟩, by decide +kernel, rfl, rfl, by decide⟩
set_option maxRecDepth 100000 in
set_option maxHeartbeats 4000000 in
theorem c_X5_copyFrom (E : jE) (q : Nat → Nat) (x : Nat → Int → Int) (q2 : Nat → Nat) (y : Nat → Int → Int) (hy : sOK y) : jMV E yX5_copyFrom wsX5_copyFrom rmX5_copyFrom [.ref (q 0), .ref (q2 0)] (wState E q x ++ wState E q2 y) (wState E q (sCp y x) ++ wState E q2 y) := by
  refine jMV_of (cc := cX5_copyFrom) (maxL := 3) (ret := none) [(0, .ref (q 0)), (1, .ref (q2 0))] (by decide) rfl rfl (Nat.le_of_ble_eq_true rfl) (fun C => ?_)
  show jG mX5_copyFrom E C (jQv E C (wState E q (sCp y x) ++ wState E q2 y)) 0 0 0 [(0, .ref (q 0)), (1, .ref (q2 0))] [] (wState E q x ++ wState E q2 y)
  have y5 : ∀ i, 0 ≤ y 5 i ∧ y 5 i ≤ 512 ∧ (i < 4 → y 5 i ≤ 20) := hy 5
  have y54 := y5 4
  have y8 : ∀ i, y 8 i = 0 ∨ y 8 i = 1 := hy 8
  refine j_aload_n 0 1 dX5_copyFrom_0 rfl rfl ?_
  refine j_get 0 0 1 4 in_X5_copyFrom_X5 dX5_copyFrom_1 rfl rfl rfl (by decide) rfl rfl ?_
  refine j_aload_n 1 5 dX5_copyFrom_4 rfl rfl ?_
  refine j_get 13 0 1 8 in_X5_copyFrom_X5 dX5_copyFrom_5 rfl rfl rfl (by decide) rfl rfl ?_
  refine j_callVv 1 [1, 2, 3, 14, 15, 16] 11 [_, _, _, _, _, _, _, _, _, _, _, _, _, _, _, _, _, _, _, _, _, _, _, _, _, _] (c_X1_copyFrom E _ _ _ _ _ _ _ _ _ _ _ _ ) rfl kX5_copyFrom_X1_copyFrom rfl rfl rfl rfl rfl rfl rfl (Nat.le_of_ble_eq_true rfl) (by decide) dX5_copyFrom_8 rfl ?_
  refine j_aload_n 0 12 dX5_copyFrom_11 rfl rfl ?_
  refine j_get 0 1 2 15 in_X5_copyFrom_X5 dX5_copyFrom_12 rfl rfl rfl (by decide) rfl rfl ?_
  refine j_aload_n 1 16 dX5_copyFrom_15 rfl rfl ?_
  refine j_get 13 1 2 19 in_X5_copyFrom_X5 dX5_copyFrom_16 rfl rfl rfl (by decide) rfl rfl ?_
  refine j_callVv 4 [4, 5, 6, 7, 17, 18, 19, 20] 22 [_, _, _, _, _, _, _, _, _, _, _, _, _, _, _, _, _, _, _, _, _, _, _, _, _, _] (c_X0_copyFrom E _ _ _ _ _ _ _ _ _ _ _ _ _ _ ) rfl kX5_copyFrom_X0_copyFrom rfl rfl rfl rfl rfl rfl rfl (Nat.le_of_ble_eq_true rfl) (by decide) dX5_copyFrom_19 rfl ?_
  refine j_aload_n 0 23 dX5_copyFrom_22 rfl rfl ?_
  refine j_get 0 2 3 26 in_X5_copyFrom_X5 dX5_copyFrom_23 rfl rfl rfl (by decide) rfl rfl ?_
  refine j_aload_n 1 27 dX5_copyFrom_26 rfl rfl ?_
  refine j_get 13 2 3 30 in_X5_copyFrom_X5 dX5_copyFrom_27 rfl rfl rfl (by decide) rfl rfl ?_
  refine j_callVv 8 [8, 9, 10, 21, 22, 23] 33 [_, _, _, _, _, _, _, _, _, _, _, _, _, _, _, _, _, _, _, _, _, _, _, _, _, _] (c_X2_copyFrom E _ _ _ _ _ _ _ _ _ _ (by omega)) rfl kX5_copyFrom_X2_copyFrom rfl rfl rfl rfl rfl rfl rfl (Nat.le_of_ble_eq_true rfl) (by decide) dX5_copyFrom_30 rfl ?_
  refine j_aload_n 1 34 dX5_copyFrom_33 rfl rfl ?_
  refine j_get 13 3 4 37 in_X5_copyFrom_X5 dX5_copyFrom_34 rfl rfl rfl (by decide) rfl rfl ?_
  refine j_iconst 38 dX5_copyFrom_37 rfl ?_
  refine j_aload_n 0 39 dX5_copyFrom_38 rfl rfl ?_
  refine j_get 0 3 4 42 in_X5_copyFrom_X5 dX5_copyFrom_39 rfl rfl rfl (by decide) rfl rfl ?_
  refine j_iconst 43 dX5_copyFrom_42 rfl ?_
  refine j_iconst 44 dX5_copyFrom_43 rfl ?_
  refine j_copyi 24 11 47 [_, _, _, _, _, _, _, _, _, _, _, _, _, _, _, _, _, _, _, _, _, _, _, _, _, _] (List.mem_of_getElem? (i := 5) rfl) (List.mem_of_getElem? (i := 6) rfl) (List.mem_of_getElem? (i := 7) rfl) (List.mem_of_getElem? (i := 8) rfl) (by decide) dX5_copyFrom_44 rfl rfl rfl (by decide) (by omega) rfl ?_
  refine j_iconst 48 dX5_copyFrom_47 rfl ?_
  refine j_istore_n 49 [_, _, _] dX5_copyFrom_48 rfl (by decide) rfl ?_
  have key49 : ∀ (fu : Nat) (i : Int), 4 < i + fu → 0 ≤ i ∧ i ≤ 4 → jG mX5_copyFrom E C (jQv E C (wState E q (sCp y x) ++ wState E q2 y)) 0 0 49 [(0, .ref (q 0)), (1, .ref (q2 0)), (2, .int (jI i))] [] (wState E q (jS (jS (jS (jS (jS y 6 (jCp (y 6) (x 6) 0 0 (80 + y 5 4))) 7 (jCp (y 7) (x 7) 0 0 3)) 8 (jCp (y 8) (x 8) 0 0 i)) 9 (jU (x 9) 0 (y 9 0))) 10 (y 10)) ++ wState E q2 y) := by
    intro fu
    induction fu with
    | zero => intro i h1 h2; exact absurd h1 (by omega)
    | succ fu ih =>
      intro i h1 h2
      have y8i := y8 i
      refine j_iload_n 2 50 dX5_copyFrom_49 rfl rfl ?_
      refine j_iconst 51 dX5_copyFrom_50 rfl ?_
      refine j_icmp_ge 72 54 dX5_copyFrom_51 rfl (by decide) (by omega) (by omega) (fun h_51 => ?_) (fun h_51 => ?_)
      · skip
        obtain rfl : i = 4 := by omega
        refine j_aload_n 0 73 dX5_copyFrom_72 rfl rfl ?_
        refine j_aload_n 1 74 dX5_copyFrom_73 rfl rfl ?_
        refine j_get 13 5 10 77 in_X5_copyFrom_X5 dX5_copyFrom_74 rfl rfl rfl (by decide) rfl rfl ?_
        refine j_put 0 5 10 80 [(_, .inr (_, [_, _, _, _, _, _, _, _, _, _, _])), _, _, _, _, _, _, _, _, _, _, _, _, _, _, _, _, _, _, _, _, _, _, _, _, _] tyX5 tyX5_ok nmX5 in_X5_copyFrom_X5 dX5_copyFrom_77 rfl rfl rfl (by decide) rfl rfl rfl rfl rfl (Nat.le_of_ble_eq_true rfl) rfl ?_
        refine j_aload_n 0 81 dX5_copyFrom_80 rfl rfl ?_
        refine j_aload_n 1 82 dX5_copyFrom_81 rfl rfl ?_
        refine j_get 13 6 11 85 in_X5_copyFrom_X5 dX5_copyFrom_82 rfl rfl rfl (by decide) rfl rfl ?_
        refine j_put 0 6 11 88 [(_, .inr (_, [_, _, _, _, _, _, _, _, _, _, _])), _, _, _, _, _, _, _, _, _, _, _, _, _, _, _, _, _, _, _, _, _, _, _, _, _] tyX5 tyX5_ok nmX5 in_X5_copyFrom_X5 dX5_copyFrom_85 rfl rfl rfl (by decide) rfl rfl rfl rfl rfl (Nat.le_of_ble_eq_true rfl) rfl ?_
        refine j_aload_n 0 89 dX5_copyFrom_88 rfl rfl ?_
        refine j_aload_n 1 90 dX5_copyFrom_89 rfl rfl ?_
        refine j_get 13 7 12 93 in_X5_copyFrom_X5 dX5_copyFrom_90 rfl rfl rfl (by decide) rfl rfl ?_
        refine j_put 0 7 12 96 [(_, .inr (_, [_, _, _, _, _, _, _, _, _, _, _])), _, _, _, _, _, _, _, _, _, _, _, _, _, _, _, _, _, _, _, _, _, _, _, _, _] tyX5 tyX5_ok nmX5 in_X5_copyFrom_X5 dX5_copyFrom_93 rfl rfl rfl (by decide) rfl rfl rfl rfl rfl (Nat.le_of_ble_eq_true rfl) rfl ?_
        refine j_aload_n 0 97 dX5_copyFrom_96 rfl rfl ?_
        refine j_aload_n 1 98 dX5_copyFrom_97 rfl rfl ?_
        refine j_get 13 8 13 101 in_X5_copyFrom_X5 dX5_copyFrom_98 rfl rfl rfl (by decide) rfl rfl ?_
        refine j_put 0 8 13 104 [(_, .inr (_, [_, _, _, _, _, _, _, _, _, _, _])), _, _, _, _, _, _, _, _, _, _, _, _, _, _, _, _, _, _, _, _, _, _, _, _, _] tyX5 tyX5_ok nmX5 in_X5_copyFrom_X5 dX5_copyFrom_101 rfl rfl rfl (by decide) rfl rfl rfl rfl rfl (Nat.le_of_ble_eq_true rfl) rfl ?_
        refine j_aload_n 0 105 dX5_copyFrom_104 rfl rfl ?_
        refine j_aload_n 1 106 dX5_copyFrom_105 rfl rfl ?_
        refine j_get 13 9 14 109 in_X5_copyFrom_X5 dX5_copyFrom_106 rfl rfl rfl (by decide) rfl rfl ?_
        refine j_put 0 9 14 112 [(_, .inr (_, [_, _, _, _, _, _, _, _, _, _, _])), _, _, _, _, _, _, _, _, _, _, _, _, _, _, _, _, _, _, _, _, _, _, _, _, _] tyX5 tyX5_ok nmX5 in_X5_copyFrom_X5 dX5_copyFrom_109 rfl rfl rfl (by decide) rfl rfl rfl rfl rfl (Nat.le_of_ble_eq_true rfl) rfl ?_
        refine j_aload_n 0 113 dX5_copyFrom_112 rfl rfl ?_
        refine j_aload_n 1 114 dX5_copyFrom_113 rfl rfl ?_
        refine j_get 13 10 15 117 in_X5_copyFrom_X5 dX5_copyFrom_114 rfl rfl rfl (by decide) rfl rfl ?_
        refine j_put 0 10 15 120 [(_, .inr (_, [_, _, _, _, _, _, _, _, _, _, _])), _, _, _, _, _, _, _, _, _, _, _, _, _, _, _, _, _, _, _, _, _, _, _, _, _] tyX5 tyX5_ok nmX5 in_X5_copyFrom_X5 dX5_copyFrom_117 rfl rfl rfl (by decide) rfl rfl rfl rfl rfl (Nat.le_of_ble_eq_true rfl) rfl ?_
        refine j_eqv (w' := wState E q (sCp y x) ++ wState E q2 y) (jEqR (jEqR (jEqR (jEqR (jEqR (jEqR (jEqR (jEqR (jEqR (jEqR (jEqR (jEqA (fun i hi => jCp_full (by omega)) (jEqA (fun i hi => jCp_full (by omega)) (jEqR (jEqR (jEqR (jEqR (jEqR (jEqR (jEqR (jEqR (jEqR (jEqR (jEqR (jEqR (jEqR jEq0)))))))))))))))))))))))))) ?_
        exact j_vret dX5_copyFrom_120 rfl (by rfl)
      · skip
        refine j_aload_n 0 55 dX5_copyFrom_54 rfl rfl ?_
        refine j_get 0 4 9 58 in_X5_copyFrom_X5 dX5_copyFrom_55 rfl rfl rfl (by decide) rfl rfl ?_
        refine j_iload_n 2 59 dX5_copyFrom_58 rfl rfl ?_
        refine j_aload_n 1 60 dX5_copyFrom_59 rfl rfl ?_
        refine j_get 13 4 9 63 in_X5_copyFrom_X5 dX5_copyFrom_60 rfl rfl rfl (by decide) rfl rfl ?_
        refine j_iload_n 2 64 dX5_copyFrom_63 rfl rfl ?_
        refine j_zald 25 65 dX5_copyFrom_64 rfl rfl (by decide) (by omega) ?_
        refine j_zast 12 66 [_, _, _, _, _, _, _, _, _, _, _, _, _, _, _, _, _, _, _, _, _, _, _, _, _, _] dX5_copyFrom_65 rfl rfl (by decide) (by omega) (by exact y8 _) rfl ?_
        refine j_iinc 2 69 [_, _, _] dX5_copyFrom_66 rfl rfl (by decide) rfl ?_
        refine j_goto 49 dX5_copyFrom_69 (by decide) ?_
        refine j_perm [1, 2, 0] rfl ?_
        have k := ih (i + 1) (by omega) (by omega)
        rw [← jCp_step h2.1] at k
        exact k
  refine j_perm [1, 2, 0] rfl ?_
  have k := key49 5 0 (by omega) (by omega)
  rw [jCp_0] at k
  exact k
