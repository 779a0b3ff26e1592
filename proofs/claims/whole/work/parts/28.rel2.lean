/-! what both sides read is the same -/
theorem thR3_th3 (x : Int → Int) {n m p v1 v2 pt : Int} {r : Int → Int} (hp : p ≤ n) (h1 : r (5 * m + 1) = v1) (h2 : r (5 * m + 2) = v2) : (thR3 x n m p r).1 = (th3 x n p v1 v2 pt).1 ∧ (thR3 x n m p r).2.1 = (th3 x n p v1 v2 pt).2.1 ∧ ((th3 x n p v1 v2 pt).1 = 1 → (thR3 x n m p r).2.2 (5 * m + 1) = v1 ∧ (thR3 x n m p r).2.2 (5 * m + 2) = v2 ∧ (0 ≤ (thR3 x n m p r).2.2 (5 * m + 3) ∧ (thR3 x n m p r).2.2 (5 * m + 3) ≤ 9) ∧ (th3 x n p v1 v2 pt).2.2.2 = tOf v1 v2 ((thR3 x n m p r).2.2 (5 * m + 3))) := by
  unfold thR3 th3
  by_cases c5 : tkP x n 98 p = 0
  · rw [if_pos c5, if_pos c5]
    exact ⟨rfl, rfl, fun h => absurd h (show ¬ (0 : Int) = 1 by decide)⟩
  · rw [if_neg c5, if_neg c5]
    by_cases c6 : nmZ x n 0 9 (p + 1) = 0
    · rw [if_pos c6]
      exact ⟨c6, rfl, fun h => absurd h (show ¬ (0 : Int) = 1 by decide)⟩
    · rw [if_neg c6]
      have z3 := nmZ_1 c6
      have z4 := nmZ_01 x n 0 9 (p + 1)
      refine ⟨by show nmZ x n 0 9 (p + 1) = 1; omega, rfl, fun _ => ⟨?_, ?_, ?_, ?_⟩⟩
      · show jU r (5 * m + 3) _ (5 * m + 1) = v1
        rw [jU_ne (by omega)]; exact h1
      · show jU r (5 * m + 3) _ (5 * m + 2) = v2
        rw [jU_ne (by omega)]; exact h2
      · show 0 ≤ jU r (5 * m + 3) _ (5 * m + 3) ∧ jU r (5 * m + 3) _ (5 * m + 3) ≤ 9
        rw [jU_at]; exact ⟨z3.1, z3.2.1⟩
      · show tOf v1 v2 _ = tOf v1 v2 (jU r (5 * m + 3) _ (5 * m + 3))
        rw [jU_at]
theorem thR2_th2 (x : Int → Int) {n m p v1 pt : Int} {r : Int → Int} (hp : p ≤ n) (h1 : r (5 * m + 1) = v1) : (thR2 x n m p r).1 = (th2 x n p v1 pt).1 ∧ (thR2 x n m p r).2.1 = (th2 x n p v1 pt).2.1 ∧ ((th2 x n p v1 pt).1 = 1 → (thR2 x n m p r).2.2 (5 * m + 1) = v1 ∧ (0 ≤ (thR2 x n m p r).2.2 (5 * m + 2) ∧ (thR2 x n m p r).2.2 (5 * m + 2) ≤ 100) ∧ (0 ≤ (thR2 x n m p r).2.2 (5 * m + 3) ∧ (thR2 x n m p r).2.2 (5 * m + 3) ≤ 9) ∧ (th2 x n p v1 pt).2.2.2 = tOf v1 ((thR2 x n m p r).2.2 (5 * m + 2)) ((thR2 x n m p r).2.2 (5 * m + 3))) := by
  unfold thR2 th2
  by_cases c3 : tkP x n 114 p = 0
  · rw [if_pos c3, if_pos c3]
    exact ⟨rfl, rfl, fun h => absurd h (show ¬ (0 : Int) = 1 by decide)⟩
  · rw [if_neg c3, if_neg c3]
    have g2 := tkP_1 c3
    by_cases c4 : nmZ x n 0 100 (p + 1) = 0
    · rw [if_pos c4, if_pos c4]
      exact ⟨rfl, rfl, fun h => absurd h (show ¬ (0 : Int) = 1 by decide)⟩
    · rw [if_neg c4, if_neg c4]
      have z2 := nmZ_1 c4
      have r2 := nm_rng (x := x) (n := n) (lo := 0) (hi := 100) (p := p + 1) (by omega) (by omega)
      have k := thR3_th3 x (n := n) (m := m) (p := nmP x n 0 100 (p + 1)) (v1 := v1) (v2 := nmV x n 0 100 (p + 1)) (pt := pt) (r := jU r (5 * m + 2) (nmV x n 0 100 (p + 1))) r2.1.2 (by rw [jU_ne (by omega)]; exact h1) (jU_at _ _ _)
      refine ⟨k.1, k.2.1, fun h => ?_⟩
      obtain ⟨a1, a2, a3, a4⟩ := k.2.2 h
      rw [a2]
      exact ⟨a1, ⟨z2.1, z2.2.1⟩, a3, a4⟩
theorem thR_th1 (x : Int → Int) {n m p : Int} (pn pt : Int) {r : Int → Int} (hp : p ≤ n) : (thR x n m p r).1 = (th1 x n p pn pt).1 ∧ (thR x n m p r).2.1 = (th1 x n p pn pt).2.1 ∧ ((th1 x n p pn pt).1 = 1 → (50 ≤ (thR x n m p r).2.2 (5 * m + 1) ∧ (thR x n m p r).2.2 (5 * m + 1) ≤ 300) ∧ (0 ≤ (thR x n m p r).2.2 (5 * m + 2) ∧ (thR x n m p r).2.2 (5 * m + 2) ≤ 100) ∧ (0 ≤ (thR x n m p r).2.2 (5 * m + 3) ∧ (thR x n m p r).2.2 (5 * m + 3) ≤ 9) ∧ (th1 x n p pn pt).2.2.2 = tOf ((thR x n m p r).2.2 (5 * m + 1)) ((thR x n m p r).2.2 (5 * m + 2)) ((thR x n m p r).2.2 (5 * m + 3))) := by
  unfold thR th1
  by_cases c1 : tkP x n 119 p = 0
  · rw [if_pos c1, if_pos c1]
    exact ⟨rfl, rfl, fun h => absurd h (show ¬ (0 : Int) = 1 by decide)⟩
  · rw [if_neg c1, if_neg c1]
    have g1 := tkP_1 c1
    by_cases c2 : nmZ x n 50 300 (p + 1) = 0
    · rw [if_pos c2, if_pos c2]
      exact ⟨rfl, rfl, fun h => absurd h (show ¬ (0 : Int) = 1 by decide)⟩
    · rw [if_neg c2, if_neg c2]
      have z2 := nmZ_1 c2
      have r2 := nm_rng (x := x) (n := n) (lo := 50) (hi := 300) (p := p + 1) (by omega) (by omega)
      have k := thR2_th2 x (n := n) (m := m) (p := nmP x n 50 300 (p + 1)) (v1 := nmV x n 50 300 (p + 1)) (pt := pt) (r := jU r (5 * m + 1) (nmV x n 50 300 (p + 1))) r2.1.2 (jU_at _ _ _)
      refine ⟨k.1, k.2.1, fun h => ?_⟩
      obtain ⟨a1, a2, a3, a4⟩ := k.2.2 h
      rw [a1]
      exact ⟨⟨z2.1, z2.2.1⟩, a2, a3, a4⟩
/-- the parts that were read, on both sides -/
def PRA (m : Int) (y z r : Int → Int) : Prop := ∀ k, 0 ≤ k → k < m → r (5 * k) = kS (z k) ∧ (z k ≠ 0 → tOf (r (5 * k + 1)) (r (5 * k + 2)) (r (5 * k + 3)) = y k)
def PRR (m : Int) (y z r : Int → Int) : Prop := ∀ k, 0 ≤ k → k < m → (50 ≤ r (5 * k + 1) ∧ r (5 * k + 1) ≤ 300) ∧ (0 ≤ r (5 * k + 2) ∧ r (5 * k + 2) ≤ 100) ∧ (0 ≤ r (5 * k + 3) ∧ r (5 * k + 3) ≤ 9) ∧ y k = tOf (r (5 * k + 1)) (r (5 * k + 2)) (r (5 * k + 3)) ∧ z k = r (5 * k + 4)
theorem paR_paP (x : Int → Int) {n m b p : Int} (pn pt : Int) {r : Int → Int} (hp : p ≤ n) : (paR x n m b p r).1 = (paP x n b p pn pt).1 ∧ (paR x n m b p r).2.1 = (paP x n b p pn pt).2.1 ∧ ((paP x n b p pn pt).1 = 1 → kdF x n b p ≠ 0 → tOf ((paR x n m b p r).2.2 (5 * m + 1)) ((paR x n m b p r).2.2 (5 * m + 2)) ((paR x n m b p r).2.2 (5 * m + 3)) = (paP x n b p pn pt).2.2.2) := by
  unfold paR paP kdP
  rcases kd3 (x := x) (n := n) (b := b) hp with h | h | h
  · rw [if_pos h.1, if_neg (by omega), if_pos h.1]
    have k := thR_th1 x (n := n) (m := m) (p := p) pn pt (r := jU r (5 * m) 119) hp
    exact ⟨k.1, k.2.1, fun h1 _ => (k.2.2 h1).2.2.2.symm⟩
  · rw [if_neg (by omega), if_pos h.1, if_pos h.1, if_neg (by omega)]
    exact ⟨rfl, rfl, fun _ q => absurd h.1 q⟩
  · rw [if_neg (by omega), if_neg (by omega), if_neg (by omega), if_neg (by omega)]
    have k := thR_th1 x (n := n) (m := m) (p := p + 1) pn pt (r := jU r (5 * m) 38) (by omega)
    exact ⟨k.1, k.2.1, fun h1 _ => (k.2.2 h1).2.2.2.symm⟩
theorem fX_rA (x : Int → Int) (n : Int) : ∀ (f : Nat) (p b m pn pt : Int) (y z r : Int → Int), p ≤ n → 0 ≤ m → PRA m y z r → (fX 0 x n f p m b r).1 = (rA x n f p b m pn pt y z).1 ∧ (fX 0 x n f p m b r).2.1 = (rA x n f p b m pn pt y z).2.1 ∧ (fX 0 x n f p m b r).2.2.1 = (rA x n f p b m pn pt y z).2.2.1 ∧ PRA (rA x n f p b m pn pt y z).2.2.1 (rA x n f p b m pn pt y z).2.2.2.2.2.1 (rA x n f p b m pn pt y z).2.2.2.2.2.2 (fX 0 x n f p m b r).2.2.2 := by
  intro f
  induction f with
  | zero => intro p b m pn pt y z r hp hm h; exact ⟨rfl, rfl, rfl, h⟩
  | succ f ih =>
    intro p b m pn pt y z r hp hm h
    have k := paR_paP x (n := n) (m := m) (b := b) (p := p) pn pt (r := r) hp
    have g := paR_rng (x := x) (n := n) (m := m) (b := b) (p := p) (r := r) hp
    have a := paR_at (x := x) (n := n) (m := m) (b := b) (p := p) (r := r) hp
    have e : stX 0 x n m b p r = paR x n m b p r := if_pos rfl
    have low : PRA m y z (paR x n m b p r).2.2 := fun j h0 h1 => by
      have q := h j h0 h1
      rw [a.2 _ (by omega), a.2 _ (by omega), a.2 _ (by omega), a.2 _ (by omega)]
      exact q
    unfold fX rA
    rw [e, k.1, k.2.1]
    by_cases c1 : (paP x n b p pn pt).1 = 0
    · rw [if_pos c1, if_pos c1]
      exact ⟨rfl, rfl, rfl, low⟩
    · rw [if_neg c1, if_neg c1]
      have c2 : (paP x n b p pn pt).1 = 1 := by rw [← k.1] at c1 ⊢; omega
      have up : PRA (m + 1) (jU y m (paP x n b p pn pt).2.2.2) (jU z m (kdF x n b p)) (paR x n m b p r).2.2 := fun j h0 h1 => by
        by_cases q : j = m
        · subst q
          rw [jU_at, jU_at]
          exact ⟨a.1, fun hz => k.2.2 c2 hz⟩
        · rw [jU_ne q, jU_ne q]
          exact low j h0 (by omega)
      rw [k.2.1] at g
      by_cases c3 : n ≤ (paP x n b p pn pt).2.1
      · have c4 : tkP x n 44 (paP x n b p pn pt).2.1 = 0 := if_neg (by omega)
        rw [if_pos c4, if_pos c3, if_pos c3]
        exact ⟨rfl, rfl, rfl, up⟩
      · by_cases c4 : tkP x n 44 (paP x n b p pn pt).2.1 = 0
        · rw [if_pos c4, if_neg c3, if_neg c3, if_pos c4]
          exact ⟨rfl, rfl, rfl, up⟩
        · rw [if_neg c4, if_neg c3, if_neg c4]
          exact ih _ _ _ _ _ _ _ _ (by omega) (by omega) up
theorem ruR_at {x : Int → Int} {n m p : Int} {r : Int → Int} {k : Int} (hk : k < 5 * m + 1 ∨ 5 * m + 4 < k) : (ruR x n m p r).2.2 k = r k := by
  unfold ruR
  split
  · exact thR_low (by omega)
  · split
    · exact thR_low (by omega)
    · show jU (thR x n m p r).2.2 _ _ k = r k
      rw [jU_ne (by omega)]; exact thR_low (by omega)
theorem ruR_ruP (x : Int → Int) {n m p : Int} (pn pt : Int) {r : Int → Int} (hp : p ≤ n) : (ruR x n m p r).1 = (ruP x n p pn pt).1 ∧ (ruR x n m p r).2.1 = (ruP x n p pn pt).2.1 ∧ ((ruP x n p pn pt).1 = 1 → ((50 ≤ (ruR x n m p r).2.2 (5 * m + 1) ∧ (ruR x n m p r).2.2 (5 * m + 1) ≤ 300) ∧ (0 ≤ (ruR x n m p r).2.2 (5 * m + 2) ∧ (ruR x n m p r).2.2 (5 * m + 2) ≤ 100) ∧ (0 ≤ (ruR x n m p r).2.2 (5 * m + 3) ∧ (ruR x n m p r).2.2 (5 * m + 3) ≤ 9) ∧ (ruP x n p pn pt).2.2.2 = tOf ((ruR x n m p r).2.2 (5 * m + 1)) ((ruR x n m p r).2.2 (5 * m + 2)) ((ruR x n m p r).2.2 (5 * m + 3)) ∧ (ruP x n p pn pt).2.2.1 = (ruR x n m p r).2.2 (5 * m + 4))) := by
  have k := thR_th1 x (n := n) (m := m) (p := p) pn pt (r := r) hp
  have g := th1_rng (x := x) (n := n) (p := p) (pn := pn) (pt := pt) hp
  unfold ruR ruP
  rw [k.1, k.2.1]
  by_cases c1 : (th1 x n p pn pt).1 = 0
  · rw [if_pos c1, if_pos c1]
    exact ⟨k.1, k.2.1, fun h => absurd h (by omega)⟩
  · rw [if_neg c1, if_neg c1]
    by_cases c2 : tkP x n 62 (th1 x n p pn pt).2.1 = 0
    · rw [if_pos c2, if_pos c2]
      exact ⟨rfl, k.2.1, fun h => absurd h (show ¬ (0 : Int) = 1 by decide)⟩
    · rw [if_neg c2, if_neg c2]
      refine ⟨rfl, rfl, fun _ => ?_⟩
      obtain ⟨a1, a2, a3, a4⟩ := k.2.2 (by omega)
      have j : ∀ (v i : Int), i < 5 * m + 4 → jU (thR x n m p r).2.2 (5 * m + 4) v i = (thR x n m p r).2.2 i := fun v i hi => jU_ne (by omega)
      dsimp only
      rw [j _ _ (by omega), j _ _ (by omega), j _ _ (by omega), jU_at]
      exact ⟨a1, a2, a3, a4, rfl⟩
theorem fX_rR (x : Int → Int) (n : Int) : ∀ (f : Nat) (p b m pn pt : Int) (y z r : Int → Int), p ≤ n → 0 ≤ m → PRR m y z r → (fX 1 x n f p m b r).1 = (rR x n f p m pn pt y z).1 ∧ (fX 1 x n f p m b r).2.1 = (rR x n f p m pn pt y z).2.1 ∧ (fX 1 x n f p m b r).2.2.1 = (rR x n f p m pn pt y z).2.2.1 ∧ PRR (rR x n f p m pn pt y z).2.2.1 (rR x n f p m pn pt y z).2.2.2.2.2.1 (rR x n f p m pn pt y z).2.2.2.2.2.2 (fX 1 x n f p m b r).2.2.2 := by
  intro f
  induction f with
  | zero => intro p b m pn pt y z r hp hm h; exact ⟨rfl, rfl, rfl, h⟩
  | succ f ih =>
    intro p b m pn pt y z r hp hm h
    have k := ruR_ruP x (n := n) (m := m) (p := p) pn pt (r := r) hp
    have g := ruR_rng (x := x) (n := n) (m := m) (p := p) (r := r) hp
    have e : stX 1 x n m b p r = ruR x n m p r := if_neg (by decide)
    have low : PRR m y z (ruR x n m p r).2.2 := fun j h0 h1 => by
      have q := h j h0 h1
      rw [ruR_at (by omega), ruR_at (by omega), ruR_at (by omega), ruR_at (by omega)]
      exact q
    unfold fX rR
    rw [e, k.1, k.2.1]
    by_cases c1 : (ruP x n p pn pt).1 = 0
    · rw [if_pos c1, if_pos c1]
      exact ⟨rfl, rfl, rfl, low⟩
    · rw [if_neg c1, if_neg c1]
      have c2 : (ruP x n p pn pt).1 = 1 := by rw [← k.1] at c1 ⊢; omega
      have up : PRR (m + 1) (jU y m (ruP x n p pn pt).2.2.2) (jU z m (ruP x n p pn pt).2.2.1) (ruR x n m p r).2.2 := fun j h0 h1 => by
        by_cases q : j = m
        · subst q
          rw [jU_at, jU_at]
          exact k.2.2 c2
        · rw [jU_ne q, jU_ne q]
          exact low j h0 (by omega)
      rw [k.2.1] at g
      by_cases c3 : n ≤ (ruP x n p pn pt).2.1
      · have c4 : tkP x n 44 (ruP x n p pn pt).2.1 = 0 := if_neg (by omega)
        rw [if_pos c4, if_pos c3, if_pos c3]
        exact ⟨rfl, rfl, rfl, up⟩
      · by_cases c4 : tkP x n 44 (ruP x n p pn pt).2.1 = 0
        · rw [if_pos c4, if_neg c3, if_neg c3, if_pos c4]
          exact ⟨rfl, rfl, rfl, up⟩
        · rw [if_neg c4, if_neg c3, if_neg c4]
          exact ih _ _ _ _ _ _ _ _ (by omega) (by omega) up
