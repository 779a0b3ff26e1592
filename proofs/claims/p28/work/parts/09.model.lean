/-! the numbers of apples, and what the class's methods make of their rows -/
def tW (t : Int) : Int := t / 1010
def tR (t : Int) : Int := t / 10 % 101
def tB (t : Int) : Int := t % 10
def tOf (a r b : Int) : Int := (a * 101 + r) * 10 + b
def tIn (a r b : Int) : Int := if (50 ≤ a ∧ a ≤ 300) ∧ (0 ≤ r ∧ r ≤ 100) ∧ (0 ≤ b ∧ b ≤ 9) then 1 else 0
def tShort (b t : Int) : Int := (if tW t < tW b then 1 else 0) + (if tR t < tR b then 2 else 0) + (if tB b < tB t then 4 else 0)
theorem tW_rng {t : Int} (h : 0 ≤ t ∧ t < 2147483648) : 0 ≤ tW t ∧ tW t < 2147483648 := by unfold tW; omega
theorem tR_rng (t : Int) : 0 ≤ tR t ∧ tR t ≤ 100 := by unfold tR; omega
theorem tB_rng (t : Int) : 0 ≤ tB t ∧ tB t ≤ 9 := by unfold tB; omega
theorem tShort_rng (b t : Int) : 0 ≤ tShort b t ∧ tShort b t ≤ 7 := by
  unfold tShort
  constructor <;> (repeat' split) <;> omega
theorem tOf_parts {a r b : Int} (ha : 0 ≤ a) (hr : 0 ≤ r ∧ r ≤ 100) (hb : 0 ≤ b ∧ b ≤ 9) : tW (tOf a r b) = a ∧ tR (tOf a r b) = r ∧ tB (tOf a r b) = b := by
  unfold tW tR tB tOf; omega
def jSum (g : Int → Int) : Nat → Int
  | 0 => 0
  | n + 1 => jSum g n + g n
/-- one place on; v comes in at 0 -/
def bMv (x : Int → Int) (v : Int) : Int → Int := fun i => if i = 0 then v else if 1 ≤ i ∧ i ≤ 11 then x (i - 1) else x i
def bMv2 (z : Int → Int) : Int → Int := fun i => if 2 ≤ i ∧ i ≤ 23 then z (i - 2) else z i
def rIns (x : Int → Int) (p m b : Int) : Int → Int := fun i => if i = p then b else if p < i ∧ i ≤ m then x (i - 1) else x i
def rOut (x : Int → Int) (r m : Int) : Int → Int := fun i => if r ≤ i ∧ i + 1 < m then x (i + 1) else x i
def lnF (x y : Int → Int) (t : Int) : Nat → Int → Int
  | 0, _ => 4
  | n + 1, i => if tShort (x i) t = 0 then y i else lnF x y t n (i + 1)
def hidF (x : Int → Int) (b : Int) : Nat → Int → Int
  | 0, _ => 0
  | n + 1, i => if tShort (x i) b = 0 then 1 else hidF x b n (i + 1)
def lrU (y : Int → Int) (o : Int) : Nat → Int
  | 0 => -4
  | n + 1 => if lrU y o n = -4 ∨ tR (y (o + n)) < lrU y o n then tR (y (o + n)) else lrU y o n
def gbU (y : Int → Int) (o : Int) : Nat → Int
  | 0 => -4
  | n + 1 => jMax (gbU y o n) (tB (y (o + n)))
theorem lrU_rng (y : Int → Int) (o : Int) (n : Nat) : -4 ≤ lrU y o n ∧ lrU y o n ≤ 100 := by
  induction n with
  | zero => unfold lrU; omega
  | succ n ih =>
    have := tR_rng (y (o + n))
    unfold lrU
    split <;> omega
theorem gbU_rng (y : Int → Int) (o : Int) (n : Nat) : -4 ≤ gbU y o n ∧ gbU y o n ≤ 9 := by
  induction n with
  | zero => unfold gbU; omega
  | succ n ih =>
    have := tB_rng (y (o + n))
    unfold gbU jMax
    split <;> omega
theorem lnF_rng {x y : Int → Int} {t : Int} (hy : ∀ i, 0 ≤ y i ∧ y i ≤ 3) (n : Nat) : ∀ i, 0 ≤ lnF x y t n i ∧ lnF x y t n i ≤ 4 := by
  induction n with
  | zero => intro i; unfold lnF; omega
  | succ n ih =>
    intro i
    have := hy i
    have := ih (i + 1)
    unfold lnF
    split <;> omega
theorem hidF_rng {x : Int → Int} {b : Int} (n : Nat) : ∀ i, hidF x b n i = 0 ∨ hidF x b n i = 1 := by
  induction n with
  | zero => intro i; unfold hidF; omega
  | succ n ih =>
    intro i
    have := ih (i + 1)
    unfold hidF
    split <;> omega
theorem jSum_rng {g : Int → Int} {b : Int} (hb : 0 ≤ b) (n : Nat) : (∀ i : Nat, i < n → 0 ≤ g i ∧ g i ≤ b) → 0 ≤ jSum g n ∧ jSum g n ≤ n * b := by
  induction n with
  | zero => intro _; unfold jSum; omega
  | succ n ih =>
    intro h
    have h1 := h n (by omega)
    have h2 := ih (fun i hi => h i (by omega))
    unfold jSum
    have : ((n + 1 : Nat) : Int) * b = (n : Int) * b + b := by
      rw [Int.natCast_add, Int.add_mul]; omega
    omega
/-- the rows of one array taken for another's, where they agree -/
def jEe (e e' : va_E) : Prop := e = e' ∨ ∃ (cA : ClassId) (m : Nat) (f g : Nat → Int32), e = .inl (cA, m, .inl f) ∧ e' = .inl (cA, m, .inl g) ∧ ∀ j : Nat, j < m → f j = g j
def jEqv : va_W → va_W → Prop
  | [], [] => True
  | (a, e) :: w, (b, e') :: w' => a = b ∧ jEe e e' ∧ jEqv w w'
  | _, _ => False
theorem jEe.at_ {D : va_G} {cl : List vw_C} {a : Nat} {e e' : va_E} {H : Heap} (h : jEe e e') (ha : va_at D cl (a, e) H) : va_at D cl (a, e') H := by
  rcases h with rfl | ⟨cA, m, f, g, rfl, rfl, hfg⟩
  · exact ha
  · show H[a]? = some (vp_cell cA (m, .inl g))
    have h1 : H[a]? = some (vp_cell cA (m, .inl f)) := ha
    have e : (fun j : Fin m => Value.int (f j.val)) = fun j : Fin m => Value.int (g j.val) := by
      funext j
      rw [hfg j.val j.isLt]
    rw [h1, vp_cell_i, vp_cell_i]
    unfold arrV
    rw [e]
theorem jEqv.spec : ∀ (w w' : va_W), jEqv w w' → w'.map Prod.fst = w.map Prod.fst ∧ ∀ (D : va_G) (cl : List vw_C) (H : Heap), va_P D cl w H → va_P D cl w' H
  | [], [], _ => ⟨rfl, fun _ _ _ h => h⟩
  | (a, e) :: w, (b, e') :: w', h => by
    obtain ⟨rfl, he, hw⟩ := h
    obtain ⟨h1, h2⟩ := jEqv.spec w w' hw
    refine ⟨by simp [h1], fun D cl H hP k q hq => ?_⟩
    cases k with
    | zero =>
      cases hq
      exact he.at_ (hP 0 _ rfl)
    | succ k => exact h2 D cl H (fun k q hq => hP (k + 1) q hq) k q hq
  | [], _ :: _, h => h.elim
  | _ :: _, [], h => h.elim
theorem j_eqv {M : jM} {E : jE} {C : jC} {Q : State → Prop} {k n pc : Nat} {L : List (Nat × Value)} {S : List Value} {w w' : va_W} (h : jEqv w w') (kk : jG M E C Q k n pc L S w') : jG M E C Q k n pc L S w := by
  obtain ⟨h1, h2⟩ := jEqv.spec _ _ h
  exact fun hF H locs ls hP hD hS hl => kk hF H locs ls (h2 _ _ _ hP) (va_D_fst h1 hD) hS hl
theorem jEA {cA : ClassId} {m : Nat} {f g : Int → Int} (h : ∀ i : Int, 0 ≤ i ∧ i < (m : Int) → f i = g i) : jEe (.inl (cA, m, .inl (jA f))) (.inl (cA, m, .inl (jA g))) := Or.inr ⟨cA, m, jA f, jA g, rfl, rfl, fun j hj => by show jI (f j) = jI (g j); rw [h j ⟨by omega, by omega⟩]⟩
theorem jEr (e : va_E) : jEe e e := Or.inl rfl
theorem jEqc {a b : Nat} {e e' : va_E} {w w' : va_W} (h1 : a = b) (h2 : jEe e e') (h3 : jEqv w w') : jEqv ((a, e) :: w) ((b, e') :: w') := ⟨h1, h2, h3⟩
theorem jEq0 : jEqv [] [] := trivial
theorem jEqR {q : Nat × va_E} {w w' : va_W} (h3 : jEqv w w') : jEqv (q :: w) (q :: w') := ⟨rfl, Or.inl rfl, h3⟩
theorem jEqA {a : Nat} {cA : ClassId} {m : Nat} {f g : Int → Int} {w w' : va_W} (h : ∀ i : Int, 0 ≤ i ∧ i < (m : Int) → f i = g i) (h3 : jEqv w w') : jEqv ((a, .inl (cA, m, .inl (jA f))) :: w) ((a, .inl (cA, m, .inl (jA g))) :: w') := ⟨rfl, jEA h, h3⟩
theorem jCp_full {f g : Int → Int} {n i : Int} (h : 0 ≤ i ∧ i < n) : jCp f g 0 0 n i = f i := by
  unfold jCp
  rw [if_pos (by omega)]
  congr 1
  omega
/-- places i + 1 .. m hold what stood k places before -/
def sh1 (x : Int → Int) (k i m : Int) : Int → Int := fun j => if i < j ∧ j ≤ m then x (j - k) else x j
theorem sh1_start (x : Int → Int) (k m : Int) : sh1 x k m m = x := by
  funext j
  unfold sh1
  rw [if_neg (by omega)]
theorem sh1_step {x : Int → Int} {k i m : Int} (h : i ≤ m) (hk : 0 ≤ k) : jU (sh1 x k i m) i (sh1 x k i m (i - k)) = sh1 x k (i - 1) m := by
  funext j
  unfold jU sh1
  by_cases h1 : j = i
  · subst h1
    rw [if_pos rfl, if_neg (by omega), if_pos (by omega)]
  · rw [if_neg h1]
    by_cases h2 : i < j ∧ j ≤ m
    · rw [if_pos h2, if_pos (by omega)]
    · rw [if_neg h2, if_neg (by omega)]
theorem sh1_bMv (x : Int → Int) (v : Int) : jU (sh1 x 1 0 11) 0 v = bMv x v := by
  funext j
  unfold jU sh1 bMv
  by_cases h1 : j = 0
  · rw [if_pos h1, if_pos h1]
  · rw [if_neg h1, if_neg h1]
    by_cases h2 : 0 < j ∧ j ≤ 11
    · rw [if_pos h2, if_pos (by omega)]
    · rw [if_neg h2, if_neg (by omega)]
theorem sh1_bMv2 (z : Int → Int) : sh1 z 2 1 23 = bMv2 z := by
  funext j
  unfold sh1 bMv2
  by_cases h2 : 1 < j ∧ j ≤ 23
  · rw [if_pos h2, if_pos (by omega)]
  · rw [if_neg h2, if_neg (by omega)]
theorem sh1_rIns (x : Int → Int) (p m b : Int) : jU (sh1 x 1 p m) p b = rIns x p m b := by
  funext j
  unfold jU sh1 rIns
  rfl
/-- places r .. i - 1 hold what stood one place behind -/
def shU (x : Int → Int) (r i : Int) : Int → Int := fun j => if r ≤ j ∧ j < i then x (j + 1) else x j
theorem shU_start (x : Int → Int) (r : Int) : shU x r r = x := by
  funext j
  unfold shU
  rw [if_neg (by omega)]
theorem shU_step {x : Int → Int} {r i : Int} (h : r ≤ i) : jU (shU x r i) i (shU x r i (i + 1)) = shU x r (i + 1) := by
  funext j
  unfold jU shU
  by_cases h1 : j = i
  · subst h1
    rw [if_pos rfl, if_neg (by omega), if_pos (by omega)]
  · rw [if_neg h1]
    by_cases h2 : r ≤ j ∧ j < i
    · rw [if_pos h2, if_pos (by omega)]
    · rw [if_neg h2, if_neg (by omega)]
theorem shU_rOut {x : Int → Int} {r m : Int} : shU x r (m - 1) = rOut x r m := by
  funext j
  unfold shU rOut
  by_cases h2 : r ≤ j ∧ j < m - 1
  · rw [if_pos h2, if_pos (by omega)]
  · rw [if_neg h2, if_neg (by omega)]
theorem shU_rOut2 {x : Int → Int} {r m : Int} (h : m ≤ r + 1) : shU x r r = rOut x r m := by
  funext j
  unfold shU rOut
  rw [if_neg (by omega), if_neg (by omega)]
