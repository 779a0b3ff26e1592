/-! the class: the rest of its methods -/
def sRls (x : Nat → Int → Int) (y z : Int → Int) : Nat → Nat → Int → Int
  | 0 => jS x 9 (jU (x 9) 0 0)
  | n + 1 => sRule (sRls x y z n) n (y n) (z n)
def sRun1 (x : Nat → Int → Int) (y z : Int → Int) (n : Nat) : Nat → Int → Int := if z n = 0 then x else sLay x (y n)
def sRun (x : Nat → Int → Int) (y z : Int → Int) (m : Int) : Nat → (Nat → Int → Int) × Int
  | 0 => (x, 0)
  | n + 1 => if (n : Int) + 1 < m ∧ z ((n : Int) + 1) = 2 then (sRun1 (sRun x y z m n).1 y z n, (sRun x y z m n).2) else (sTick (sRun1 (sRun x y z m n).1 y z n), (sRun x y z m n).2 + sTickN (sRun1 (sRun x y z m n).1 y z n))
/-- what is known of the parts that were read: k of them, with rows y and z -/
def rAok (k : Int) (y z : Int → Int) : Prop := (∀ j, 0 ≤ j → j < k → (0 ≤ z j ∧ z j ≤ 2) ∧ (z j ≠ 0 → 0 ≤ y j ∧ y j < 404000) ∧ (z j = 2 → 1 ≤ j ∧ z (j - 1) = 1))
theorem rIns_end (x : Int → Int) (p b : Int) : rIns x p p b = jU x p b := by
  funext j
  unfold rIns jU
  by_cases h : j = p
  · rw [if_pos h, if_pos h]
  · rw [if_neg h, if_neg h, if_neg (by omega)]
theorem tOf_rng {a r b : Int} (ha : 50 ≤ a ∧ a ≤ 300) (hr : 0 ≤ r ∧ r ≤ 100) (hb : 0 ≤ b ∧ b ≤ 9) : 0 ≤ tOf a r b ∧ tOf a r b < 404000 := by
  unfold tOf; omega
theorem rAok_step {k : Int} {y z : Int → Int} {t c : Int} (hk : 0 ≤ k) (h : rAok k y z) (hc : 0 ≤ c ∧ c ≤ 2) (ht : c ≠ 0 → 0 ≤ t ∧ t < 404000) (h2 : c = 2 → 1 ≤ k ∧ z (k - 1) = 1) : rAok (k + 1) (jU y k t) (jU z k c) := by
  intro j h0 hj
  by_cases q : j = k
  · subst q
    rw [jU_at, jU_at]
    refine ⟨hc, ht, fun e => ?_⟩
    have := h2 e
    rw [jU_ne (by omega)]
    exact this
  · rw [jU_ne q, jU_ne q]
    have g := h j h0 (by omega)
    refine ⟨g.1, g.2.1, fun e => ?_⟩
    have := g.2.2 e
    rw [jU_ne (by omega)]
    exact this
def rRok (k : Int) (y z : Int → Int) : Prop := ∀ j, 0 ≤ j → j < k → (0 ≤ y j ∧ y j < 404000) ∧ (0 ≤ z j ∧ z j ≤ 3)
theorem sRls_9 (x : Nat → Int → Int) (y z : Int → Int) (n : Nat) : sRls x y z n 9 0 = n := by
  cases n with
  | zero => show jU (x 9) 0 0 0 = _; rw [jU_at]; rfl
  | succ n =>
    have e : sRls x y z (n + 1) 9 0 = sRls x y z n 9 0 + 1 := by
      show sRule (sRls x y z n) n (y n) (z n) 9 0 = _
      unfold sRule
      rw [jS_at, jU_at]
    rw [e, sRls_9 x y z n]
    omega
theorem sOK_rule {x : Nat → Int → Int} {p t l : Int} (hx : sOK x) (hm : x 9 0 < 8) (ht : 0 ≤ t ∧ t < 404000) (hl : 0 ≤ l ∧ l ≤ 3) : sOK (sRule x p t l) := by
  have h0 : ∀ i, 0 ≤ x 0 i ∧ x 0 i < 404000 := hx 0
  have h1 : ∀ i, 0 ≤ x 1 i ∧ x 1 i ≤ 3 := hx 1
  have h9 : 0 ≤ x 9 0 ∧ x 9 0 ≤ 8 := hx 9
  unfold sRule
  refine sOK_S (sOK_S (sOK_S hx ?_) ?_) ?_
  · show ∀ i, 0 ≤ rIns (x 0) p (x 9 0) t i ∧ rIns (x 0) p (x 9 0) t i < 404000
    intro i
    unfold rIns
    split
    · exact ht
    · split
      · exact h0 _
      · exact h0 _
  · show ∀ i, 0 ≤ rIns (x 1) p (x 9 0) l i ∧ rIns (x 1) p (x 9 0) l i ≤ 3
    intro i
    unfold rIns
    split
    · exact hl
    · split
      · exact h1 _
      · exact h1 _
  · show 0 ≤ jU (x 9) 0 (x 9 0 + 1) 0 ∧ jU (x 9) 0 (x 9 0 + 1) 0 ≤ 8
    rw [jU_at]; omega
theorem sOK_rls {x : Nat → Int → Int} {y z : Int → Int} (hx : sOK x) : ∀ n : Nat, n ≤ 8 → rRok n y z → sOK (sRls x y z n) := by
  intro n
  induction n with
  | zero =>
    intro _ _
    refine sOK_S hx ?_
    show 0 ≤ jU (x 9) 0 0 0 ∧ jU (x 9) 0 0 0 ≤ 8
    rw [jU_at]; omega
  | succ n ih =>
    intro hn h
    have g := h n (by omega) (by omega)
    exact sOK_rule (ih (by omega) (fun j h0 hj => h j h0 (by omega))) (by rw [sRls_9]; omega) g.1 g.2
/-- the belt at each part of a run -/
theorem sRun_inv {x : Nat → Int → Int} {y z : Int → Int} {m N : Int} (h : sInv x N) (hN : N + m ≤ 512) (h0 : x 2 0 = 0) (ok : rAok m y z) : ∀ n : Nat, (n : Int) ≤ m → sInv (sRun x y z m n).1 (N + n) ∧ ((sRun x y z m n).1 2 0 = if 1 ≤ (n : Int) ∧ (n : Int) < m ∧ z n = 2 then 1 else 0) := by
  intro n
  induction n with
  | zero =>
    intro _
    refine ⟨?_, ?_⟩
    · show sInv x (N + ((0 : Nat) : Int))
      rw [show N + ((0 : Nat) : Int) = N by omega]; exact h
    · show x 2 0 = _
      rw [if_neg (by omega)]; exact h0
  | succ n ih =>
    intro hn
    obtain ⟨i1, i2⟩ := ih (by omega)
    have o := ok n (by omega) (by omega)
    have hlt : (sRun x y z m n).1 2 0 < 2 := by rw [i2]; split <;> omega
    have L : sInv (sRun1 (sRun x y z m n).1 y z n) (N + ((n + 1 : Nat) : Int)) := by
      unfold sRun1
      by_cases c : z n = 0
      · rw [if_pos c]
        exact ⟨i1.1, i1.2.1, by have := i1.2.2; omega⟩
      · rw [if_neg c, show N + ((n + 1 : Nat) : Int) = N + n + 1 by omega]
        exact sInv_lay i1 hlt (o.2.1 c)
    have tick0 : ∀ w : Nat → Int → Int, sTick w 2 0 = 0 := by
      intro w
      have key : ∀ k : Nat, k ≤ 4 → (sDs (sT3 w) k).1 2 0 = 0 := by
        intro k
        induction k with
        | zero => intro _; show sT3 w 2 0 = 0; rw [(sT3_rows w).1]; rfl
        | succ k ihk =>
          intro hk
          have e := ihk (by omega)
          show sDrX (sDs (sT3 w) k).1 k 2 0 = 0
          unfold sDrX
          split
          · split
            · exact e
            · split
              · show jU ((sDs (sT3 w) k).1 2) (2 + 2 * (k : Int)) 0 0 = 0
                rw [jU_ne (by omega)]; exact e
              · show jU ((sDs (sT3 w) k).1 2) (2 + 2 * (k : Int)) 0 0 = 0
                rw [jU_ne (by omega)]; exact e
          · exact e
      exact key 4 (by omega)
    by_cases c : (n : Int) + 1 < m ∧ z ((n : Int) + 1) = 2
    · have e : sRun x y z m (n + 1) = (sRun1 (sRun x y z m n).1 y z n, (sRun x y z m n).2) := if_pos c
      rw [e]
      refine ⟨L, ?_⟩
      rw [if_pos (by have : ((n + 1 : Nat) : Int) = (n : Int) + 1 := by omega
                     rw [this]; exact ⟨by omega, c.1, c.2⟩)]
      have o2 := (ok ((n : Int) + 1) (by omega) c.1).2.2 c.2
      rw [show (n : Int) + 1 - 1 = n by omega] at o2
      show sRun1 (sRun x y z m n).1 y z n 2 0 = 1
      unfold sRun1
      rw [if_neg (by omega)]
      show jU ((sRun x y z m n).1 2) 0 ((sRun x y z m n).1 2 0 + 1) 0 = 1
      rw [jU_at, i2, if_neg (by omega)]
      omega
    · have e : sRun x y z m (n + 1) = (sTick (sRun1 (sRun x y z m n).1 y z n), (sRun x y z m n).2 + sTickN (sRun1 (sRun x y z m n).1 y z n)) := if_neg c
      rw [e]
      refine ⟨sInv_tick L (by omega), ?_⟩
      rw [if_neg (by have : ((n + 1 : Nat) : Int) = (n : Int) + 1 := by omega
                     rw [this]; intro q; exact c ⟨q.2.1, q.2.2⟩)]
      exact tick0 _
