/-! the class: the rest of its methods -/
def sRls (x : Nat → Int → Int) (y z : Int → Int) : Nat → Nat → Int → Int
  | 0 => jS x 9 (jU (x 9) 0 0)
  | n + 1 => sRule (sRls x y z n) n (y n) (z n)
def sRun1 (x : Nat → Int → Int) (y z : Int → Int) (n : Nat) : Nat → Int → Int := if z n = 0 then x else sLay x (y n)
def sRun (x : Nat → Int → Int) (y z : Int → Int) (m : Int) : Nat → (Nat → Int → Int) × Int
  | 0 => (x, 0)
  | n + 1 => if (n : Int) + 1 < m ∧ z ((n : Int) + 1) = 2 then (sRun1 (sRun x y z m n).1 y z n, (sRun x y z m n).2) else (sTick (sRun1 (sRun x y z m n).1 y z n), (sRun x y z m n).2 + sTickN (sRun1 (sRun x y z m n).1 y z n))
def mRules (S H : Nat → Nat → Int → Int) (P : Nat → Int → Int) (v : Int → Int) (r : rRes) : Int × cSt := if r.1 = 0 then (-2, S, H, rP P r, rV v r) else if 8 < r.2.2.1 then (-3, S, H, rP P r, rV v r) else (r.2.2.1, cU S 0 (sRls (S 0) r.2.2.2.2.2.1 r.2.2.2.2.2.2 r.2.2.1.toNat), kH S H v, rP P r, jU (kV (rV v r)) 3 0)
def mRun (S H : Nat → Nat → Int → Int) (P : Nat → Int → Int) (v : Int → Int) (r : rRes) : Int × cSt := if r.1 = 0 then (-2, S, H, rP P r, rV v r) else if 0 < S 0 2 0 then (-3, S, H, rP P r, rV v r) else ((sRun (S 0) r.2.2.2.2.2.1 r.2.2.2.2.2.2 r.2.2.1 r.2.2.1.toNat).2, cU S 0 (sRun (S 0) r.2.2.2.2.2.1 r.2.2.2.2.2.2 r.2.2.1 r.2.2.1.toNat).1, kH S H v, rP P r, jU (kV (rV v r)) 3 0)
/-- what is known of the parts that were read: k of them, with rows y and z -/
def rAok (k : Int) (y z : Int → Int) : Prop := (∀ j, 0 ≤ j → j < k → (0 ≤ z j ∧ z j ≤ 2) ∧ (z j ≠ 0 → 0 ≤ y j ∧ y j < 404000) ∧ (z j = 2 → 1 ≤ j ∧ z (j - 1) = 1))
theorem rIns_end (x : Int → Int) (p b : Int) : rIns x p p b = jU x p b := by
  funext j
  unfold rIns jU
  by_cases h : j = p
  · rw [if_pos h, if_pos h]
  · rw [if_neg h, if_neg h, if_neg (by omega)]
theorem nmZ_1 {x : Int → Int} {n lo hi p : Int} (h : ¬ nmZ x n lo hi p = 0) : lo ≤ nmV x n lo hi p ∧ nmV x n lo hi p ≤ hi ∧ 0 < nmD x n lo hi p := by
  unfold nmZ at h
  by_cases q : 0 < nmD x n lo hi p ∧ lo ≤ nmV x n lo hi p ∧ nmV x n lo hi p ≤ hi
  · exact ⟨q.2.1, q.2.2, q.1⟩
  · rw [if_neg q] at h; exact absurd rfl h
/-- what three numbers that stand there are, and how far they reach -/
theorem th1_1 {x : Int → Int} {n p pn pt : Int} (hp : p ≤ n) (h : ¬ (th1 x n p pn pt).1 = 0) : ∃ a r b : Int, (50 ≤ a ∧ a ≤ 300) ∧ (0 ≤ r ∧ r ≤ 100) ∧ (0 ≤ b ∧ b ≤ 9) ∧ (th1 x n p pn pt).2.2.2 = tOf a r b ∧ p + 6 ≤ (th1 x n p pn pt).2.1 := by
  unfold th1 at h ⊢
  by_cases c1 : tkP x n 119 p = 0
  · rw [if_pos c1] at h; exact absurd rfl h
  rw [if_neg c1] at h ⊢
  have g1 := tkP_1 c1
  by_cases c2 : nmZ x n 50 300 (p + 1) = 0
  · rw [if_pos c2] at h; exact absurd rfl h
  rw [if_neg c2] at h ⊢
  have z1 := nmZ_1 c2
  have r1 := nm_rng (x := x) (n := n) (lo := 50) (hi := 300) (p := p + 1) (by omega) (by omega)
  unfold th2 at h ⊢
  by_cases c3 : tkP x n 114 (nmP x n 50 300 (p + 1)) = 0
  · rw [if_pos c3] at h; exact absurd rfl h
  rw [if_neg c3] at h ⊢
  have g2 := tkP_1 c3
  by_cases c4 : nmZ x n 0 100 (nmP x n 50 300 (p + 1) + 1) = 0
  · rw [if_pos c4] at h; exact absurd rfl h
  rw [if_neg c4] at h ⊢
  have z2 := nmZ_1 c4
  have r2 := nm_rng (x := x) (n := n) (lo := 0) (hi := 100) (p := nmP x n 50 300 (p + 1) + 1) (by omega) (by omega)
  unfold th3 at h ⊢
  by_cases c5 : tkP x n 98 (nmP x n 0 100 (nmP x n 50 300 (p + 1) + 1)) = 0
  · rw [if_pos c5] at h; exact absurd rfl h
  rw [if_neg c5] at h ⊢
  have g3 := tkP_1 c5
  by_cases c6 : nmZ x n 0 9 (nmP x n 0 100 (nmP x n 50 300 (p + 1) + 1) + 1) = 0
  · rw [if_pos c6] at h; exact absurd rfl h
  rw [if_neg c6]
  have z3 := nmZ_1 c6
  have r3 := nm_rng (x := x) (n := n) (lo := 0) (hi := 9) (p := nmP x n 0 100 (nmP x n 50 300 (p + 1) + 1) + 1) (by omega) (by omega)
  refine ⟨_, _, _, ⟨z1.1, z1.2.1⟩, ⟨z2.1, z2.2.1⟩, ⟨z3.1, z3.2.1⟩, rfl, ?_⟩
  dsimp only
  omega
theorem tOf_rng {a r b : Int} (ha : 50 ≤ a ∧ a ≤ 300) (hr : 0 ≤ r ∧ r ≤ 100) (hb : 0 ≤ b ∧ b ≤ 9) : 0 ≤ tOf a r b ∧ tOf a r b < 404000 := by
  unfold tOf; omega
theorem rAok_step {k : Int} {y z : Int → Int} {t c : Int} (hk : 0 ≤ k) (h : rAok k y z) (hc : 0 ≤ c ∧ c ≤ 2) (ht : c ≠ 0 → 0 ≤ t ∧ t < 404000) (h2 : c = 2 → 1 ≤ k ∧ z (k - 1) = 1) : rAok (k + 1) (jU y k t) (jU z k c) := by
  intro j h0 hj
  by_cases q : j = k
  · subst q
    rw [jU_at, jU_at]
    refine ⟨hc, ht, fun e => ?_⟩
    have := h2 e
    rw [jU_ne (by omega)]
    exact this
  · rw [jU_ne q, jU_ne q]
    have g := h j h0 (by omega)
    refine ⟨g.1, g.2.1, fun e => ?_⟩
    have := g.2.2 e
    rw [jU_ne (by omega)]
    exact this
theorem kdF_2 {x : Int → Int} {n b p : Int} (h : kdF x n b p = 2) : b = 1 := by
  unfold kdF at h
  by_cases q : tkP x n 120 p = 0
  · rw [if_pos q] at h
    by_cases q2 : b = 1 ∧ tkP x n 38 p = 1
    · exact q2.1
    · rw [if_neg q2] at h; omega
  · rw [if_neg q] at h; omega
theorem rA_ok (x : Int → Int) (n : Int) : ∀ (f : Nat) (p b k pn pt : Int) (y z : Int → Int), p ≤ n → 0 ≤ k → 2 * k ≤ p → (b = 0 ∨ (1 ≤ k ∧ z (k - 1) = b)) → rAok k y z → rAok (rA x n f p b k pn pt y z).2.2.1 (rA x n f p b k pn pt y z).2.2.2.2.2.1 (rA x n f p b k pn pt y z).2.2.2.2.2.2 ∧ 0 ≤ (rA x n f p b k pn pt y z).2.2.1 ∧ ((rA x n f p b k pn pt y z).1 = 1 → 1 ≤ (rA x n f p b k pn pt y z).2.2.1 ∧ 2 * (rA x n f p b k pn pt y z).2.2.1 ≤ n + 1) := by
  intro f
  induction f with
  | zero => intro p b k pn pt y z h h0 h2 hb h1; unfold rA; dsimp only; exact ⟨h1, h0, fun e => absurd e (by omega)⟩
  | succ f ih =>
    intro p b k pn pt y z h h0 hk2 hb h1
    have kr := kd_rng (x := x) (n := n) (b := b) (p := p) h
    have g := paP_rng (x := x) (n := n) (b := b) (p := p) (pn := pn) (pt := pt) h
    unfold rA
    by_cases c1 : (paP x n b p pn pt).1 = 0
    · rw [if_pos c1]; dsimp only; exact ⟨h1, h0, fun e => absurd e (by omega)⟩
    rw [if_neg c1]
    have hstep : rAok (k + 1) (jU y k (paP x n b p pn pt).2.2.2) (jU z k (kdF x n b p)) := by
      refine rAok_step h0 h1 kr.1 (fun hc => ?_) (fun hc => ?_)
      · have e : paP x n b p pn pt = th1 x n (kdP x n b p) pn pt := if_neg hc
        rw [e] at c1 ⊢
        obtain ⟨a, r, b', ha, hr, hb', e2, -⟩ := th1_1 kr.2.2 c1
        rw [e2]
        exact tOf_rng ha hr hb'
      · have := kdF_2 hc
        rcases hb with q | q
        · omega
        · exact ⟨q.1, by rw [q.2]; exact this⟩
    have hpos : p + 1 ≤ (paP x n b p pn pt).2.1 := by
      by_cases hc : kdF x n b p = 0
      · have e : paP x n b p pn pt = (1, kdP x n b p, pn, pt) := if_pos hc
        rw [e]
        show p + 1 ≤ kdP x n b p
        unfold kdP
        rw [if_neg (by omega)]
        omega
      · have e : paP x n b p pn pt = th1 x n (kdP x n b p) pn pt := if_neg hc
        rw [e] at c1 ⊢
        obtain ⟨a, r, b', -, -, -, -, e2⟩ := th1_1 kr.2.2 c1
        omega
    by_cases c2 : n ≤ (paP x n b p pn pt).2.1
    · rw [if_pos c2]; dsimp only; exact ⟨hstep, by omega, fun _ => by omega⟩
    rw [if_neg c2]
    by_cases c3 : tkP x n 44 (paP x n b p pn pt).2.1 = 0
    · rw [if_pos c3]; dsimp only; exact ⟨hstep, by omega, fun e => absurd e (by omega)⟩
    rw [if_neg c3]
    have := (tkP_1 c3).2.1
    exact ih _ _ _ _ _ _ _ (by omega) (by omega) (by omega) (Or.inr ⟨by omega, by rw [show k + 1 - 1 = k by omega, jU_at]⟩) hstep
def rRok (k : Int) (y z : Int → Int) : Prop := ∀ j, 0 ≤ j → j < k → (0 ≤ y j ∧ y j < 404000) ∧ (0 ≤ z j ∧ z j ≤ 3)
theorem rR_ok (x : Int → Int) (n : Int) : ∀ (f : Nat) (p k pn pt : Int) (y z : Int → Int), p ≤ n → 0 ≤ k → rRok k y z → rRok (rR x n f p k pn pt y z).2.2.1 (rR x n f p k pn pt y z).2.2.2.2.2.1 (rR x n f p k pn pt y z).2.2.2.2.2.2 ∧ 0 ≤ (rR x n f p k pn pt y z).2.2.1 ∧ ((rR x n f p k pn pt y z).1 = 1 → 1 ≤ (rR x n f p k pn pt y z).2.2.1) := by
  intro f
  induction f with
  | zero => intro p k pn pt y z h h0 h1; unfold rR; dsimp only; exact ⟨h1, h0, fun e => absurd e (by omega)⟩
  | succ f ih =>
    intro p k pn pt y z h h0 h1
    have g := ruP_rng (x := x) (n := n) (p := p) (pn := pn) (pt := pt) h
    unfold rR
    by_cases c1 : (ruP x n p pn pt).1 = 0
    · rw [if_pos c1]; dsimp only; exact ⟨h1, h0, fun e => absurd e (by omega)⟩
    rw [if_neg c1]
    have hstep : rRok (k + 1) (jU y k (ruP x n p pn pt).2.2.2) (jU z k (ruP x n p pn pt).2.2.1) := by
      have hq : (0 ≤ (ruP x n p pn pt).2.2.2 ∧ (ruP x n p pn pt).2.2.2 < 404000) ∧ 0 ≤ (ruP x n p pn pt).2.2.1 ∧ (ruP x n p pn pt).2.2.1 ≤ 3 := by
        have tr := th1_rng (x := x) (n := n) (p := p) (pn := pn) (pt := pt) h
        by_cases d1 : (th1 x n p pn pt).1 = 0
        · have e : ruP x n p pn pt = th1 x n p pn pt := if_pos d1
          rw [e] at c1; exact absurd d1 c1
        · obtain ⟨a, r, b', ha, hr, hb', e2, -⟩ := th1_1 h d1
          have e : ruP x n p pn pt = if tkP x n 62 (th1 x n p pn pt).2.1 = 0 then (0, (th1 x n p pn pt).2) else (nmZ x n 0 3 ((th1 x n p pn pt).2.1 + 1), nmP x n 0 3 ((th1 x n p pn pt).2.1 + 1), nmV x n 0 3 ((th1 x n p pn pt).2.1 + 1), (th1 x n p pn pt).2.2.2) := if_neg d1
          rw [e] at c1 ⊢
          by_cases d2 : tkP x n 62 (th1 x n p pn pt).2.1 = 0
          · rw [if_pos d2] at c1; exact absurd rfl c1
          · rw [if_neg d2]
            have := (tkP_1 d2).2.1
            have nr := nm_rng (x := x) (n := n) (lo := 0) (hi := 3) (p := (th1 x n p pn pt).2.1 + 1) (by omega) (by omega)
            dsimp only
            rw [e2]
            exact ⟨tOf_rng ha hr hb', nr.2.1⟩
      intro j g0 hj
      by_cases q : j = k
      · subst q; rw [jU_at, jU_at]; exact hq
      · rw [jU_ne q, jU_ne q]; exact h1 j g0 (by omega)
    by_cases c2 : n ≤ (ruP x n p pn pt).2.1
    · rw [if_pos c2]; dsimp only; exact ⟨hstep, by omega, fun _ => by omega⟩
    rw [if_neg c2]
    by_cases c3 : tkP x n 44 (ruP x n p pn pt).2.1 = 0
    · rw [if_pos c3]; dsimp only; exact ⟨hstep, by omega, fun e => absurd e (by omega)⟩
    rw [if_neg c3]
    have := (tkP_1 c3).2.1
    exact ih _ _ _ _ _ _ (by omega) (by omega) hstep
theorem rR_cnt (x : Int → Int) (n : Int) : ∀ (f : Nat) (p k pn pt : Int) (y z : Int → Int), (rR x n f p k pn pt y z).2.2.1 ≤ k + f := by
  intro f
  induction f with
  | zero => intro p k pn pt y z; unfold rR; dsimp only; omega
  | succ f ih =>
    intro p k pn pt y z
    unfold rR
    split
    · dsimp only; omega
    · split
      · dsimp only; omega
      · split
        · dsimp only; omega
        · have := ih ((ruP x n p pn pt).2.1 + 1) (k + 1) (ruP x n p pn pt).2.2.1 (ruP x n p pn pt).2.2.2 (jU y k (ruP x n p pn pt).2.2.2) (jU z k (ruP x n p pn pt).2.2.1)
          omega
theorem sRls_9 (x : Nat → Int → Int) (y z : Int → Int) (n : Nat) : sRls x y z n 9 0 = n := by
  cases n with
  | zero => show jU (x 9) 0 0 0 = _; rw [jU_at]; rfl
  | succ n =>
    have e : sRls x y z (n + 1) 9 0 = sRls x y z n 9 0 + 1 := by
      show sRule (sRls x y z n) n (y n) (z n) 9 0 = _
      unfold sRule
      rw [jS_at, jU_at]
    rw [e, sRls_9 x y z n]
    omega
theorem sOK_rule {x : Nat → Int → Int} {p t l : Int} (hx : sOK x) (hm : x 9 0 < 8) (ht : 0 ≤ t ∧ t < 404000) (hl : 0 ≤ l ∧ l ≤ 3) : sOK (sRule x p t l) := by
  have h0 : ∀ i, 0 ≤ x 0 i ∧ x 0 i < 404000 := hx 0
  have h1 : ∀ i, 0 ≤ x 1 i ∧ x 1 i ≤ 3 := hx 1
  have h9 : 0 ≤ x 9 0 ∧ x 9 0 ≤ 8 := hx 9
  unfold sRule
  refine sOK_S (sOK_S (sOK_S hx ?_) ?_) ?_
  · show ∀ i, 0 ≤ rIns (x 0) p (x 9 0) t i ∧ rIns (x 0) p (x 9 0) t i < 404000
    intro i
    unfold rIns
    split
    · exact ht
    · split
      · exact h0 _
      · exact h0 _
  · show ∀ i, 0 ≤ rIns (x 1) p (x 9 0) l i ∧ rIns (x 1) p (x 9 0) l i ≤ 3
    intro i
    unfold rIns
    split
    · exact hl
    · split
      · exact h1 _
      · exact h1 _
  · show 0 ≤ jU (x 9) 0 (x 9 0 + 1) 0 ∧ jU (x 9) 0 (x 9 0 + 1) 0 ≤ 8
    rw [jU_at]; omega
theorem sOK_rls {x : Nat → Int → Int} {y z : Int → Int} (hx : sOK x) : ∀ n : Nat, n ≤ 8 → rRok n y z → sOK (sRls x y z n) := by
  intro n
  induction n with
  | zero =>
    intro _ _
    refine sOK_S hx ?_
    show 0 ≤ jU (x 9) 0 0 0 ∧ jU (x 9) 0 0 0 ≤ 8
    rw [jU_at]; omega
  | succ n ih =>
    intro hn h
    have g := h n (by omega) (by omega)
    exact sOK_rule (ih (by omega) (fun j h0 hj => h j h0 (by omega))) (by rw [sRls_9]; omega) g.1 g.2
/-- the belt at each part of a run -/
theorem sRun_inv {x : Nat → Int → Int} {y z : Int → Int} {m N : Int} (h : sInv x N) (hN : N + m ≤ 512) (h0 : x 2 0 = 0) (ok : rAok m y z) : ∀ n : Nat, (n : Int) ≤ m → sInv (sRun x y z m n).1 (N + n) ∧ ((sRun x y z m n).1 2 0 = if 1 ≤ (n : Int) ∧ (n : Int) < m ∧ z n = 2 then 1 else 0) := by
  intro n
  induction n with
  | zero =>
    intro _
    refine ⟨?_, ?_⟩
    · show sInv x (N + ((0 : Nat) : Int))
      rw [show N + ((0 : Nat) : Int) = N by omega]; exact h
    · show x 2 0 = _
      rw [if_neg (by omega)]; exact h0
  | succ n ih =>
    intro hn
    obtain ⟨i1, i2⟩ := ih (by omega)
    have o := ok n (by omega) (by omega)
    have hlt : (sRun x y z m n).1 2 0 < 2 := by rw [i2]; split <;> omega
    have L : sInv (sRun1 (sRun x y z m n).1 y z n) (N + ((n + 1 : Nat) : Int)) := by
      unfold sRun1
      by_cases c : z n = 0
      · rw [if_pos c]
        exact ⟨i1.1, i1.2.1, by have := i1.2.2; omega⟩
      · rw [if_neg c, show N + ((n + 1 : Nat) : Int) = N + n + 1 by omega]
        exact sInv_lay i1 hlt (o.2.1 c)
    have tick0 : ∀ w : Nat → Int → Int, sTick w 2 0 = 0 := by
      intro w
      have key : ∀ k : Nat, k ≤ 4 → (sDs (sT3 w) k).1 2 0 = 0 := by
        intro k
        induction k with
        | zero => intro _; show sT3 w 2 0 = 0; rw [(sT3_rows w).1]; rfl
        | succ k ihk =>
          intro hk
          have e := ihk (by omega)
          show sDrX (sDs (sT3 w) k).1 k 2 0 = 0
          unfold sDrX
          split
          · split
            · exact e
            · split
              · show jU ((sDs (sT3 w) k).1 2) (2 + 2 * (k : Int)) 0 0 = 0
                rw [jU_ne (by omega)]; exact e
              · show jU ((sDs (sT3 w) k).1 2) (2 + 2 * (k : Int)) 0 0 = 0
                rw [jU_ne (by omega)]; exact e
          · exact e
      exact key 4 (by omega)
    by_cases c : (n : Int) + 1 < m ∧ z ((n : Int) + 1) = 2
    · have e : sRun x y z m (n + 1) = (sRun1 (sRun x y z m n).1 y z n, (sRun x y z m n).2) := if_pos c
      rw [e]
      refine ⟨L, ?_⟩
      rw [if_pos (by have : ((n + 1 : Nat) : Int) = (n : Int) + 1 := by omega
                     rw [this]; exact ⟨by omega, c.1, c.2⟩)]
      have o2 := (ok ((n : Int) + 1) (by omega) c.1).2.2 c.2
      rw [show (n : Int) + 1 - 1 = n by omega] at o2
      show sRun1 (sRun x y z m n).1 y z n 2 0 = 1
      unfold sRun1
      rw [if_neg (by omega)]
      show jU ((sRun x y z m n).1 2) 0 ((sRun x y z m n).1 2 0 + 1) 0 = 1
      rw [jU_at, i2, if_neg (by omega)]
      omega
    · have e : sRun x y z m (n + 1) = (sTick (sRun1 (sRun x y z m n).1 y z n), (sRun x y z m n).2 + sTickN (sRun1 (sRun x y z m n).1 y z n)) := if_neg c
      rw [e]
      refine ⟨sInv_tick L (by omega), ?_⟩
      rw [if_neg (by have : ((n + 1 : Nat) : Int) = (n : Int) + 1 := by omega
                     rw [this]; intro q; exact c ⟨q.2.1, q.2.2⟩)]
      exact tick0 _
set_option maxRecDepth 20000 in
theorem in_X7_rules_X7 : ∀ x ∈ u_ws RX7 TX7 6, x ∈ wsX7_rules := by decide +kernel
theorem kX7_rules_X4_readRules : jKv mX7_rules 129 yX4_readRules wsX4_readRules rmX4_readRules 0 := ⟨gX7_rules_X4_readRules, ⟨_, _, _, _, rfl, by decide⟩, by decide +kernel, rfl, rfl, by decide⟩
set_option maxRecDepth 20000 in
theorem in_X7_rules_X4 : ∀ x ∈ u_ws RX4 TX4 8, x ∈ wsX7_rules := by decide +kernel
theorem kX7_rules_X3_keep : jKv mX7_rules 56 yX3_keep wsX3_keep rmX3_keep 1 := ⟨gX7_rules_X3_keep, ⟨_, _, _, _, rfl, by decide⟩, by decide +kernel, rfl, rfl, by decide⟩
set_option maxRecDepth 20000 in
theorem in_X7_rules_X5 : ∀ x ∈ u_ws RX5 TX5 11, x ∈ wsX7_rules := by decide +kernel
set_option maxRecDepth 20000 in
theorem in_X7_rules_X1 : ∀ x ∈ u_ws RX1 TX1 3, x ∈ wsX7_rules := by decide +kernel
theorem kX7_rules_X1_insert : jKv mX7_rules 86 yX1_insert wsX1_insert rmX1_insert 3 := ⟨gX7_rules_X1_insert, ⟨_, _, _, _, rfl, by decide⟩, by decide +kernel, rfl, rfl, by decide⟩
set_option maxRecDepth 100000 in
set_option maxHeartbeats 4000000 in
theorem c_X7_rules (E : jE) (ad qh : Nat → Nat → Nat) (S H : Nat → Nat → Int → Int) (P : Nat → Int → Int) (v : Int → Int)  (hc0 : cOK S H P v)  : jMI E yX7_rules wsX7_rules rmX7_rules [.ref (ad 7 0)] (wEye E ad qh S H P v) ((mRules S H P v (rR (P 0) (v 3) 60 0 0 (v 6) 0 (P 1) (P 2))).1) (wEyeC E ad qh (mRules S H P v (rR (P 0) (v 3) 60 0 0 (v 6) 0 (P 1) (P 2))).2) := by
  refine jMI_of (cc := cX7_rules) (maxL := 2) (ret := (some .int)) [(0, .ref (ad 7 0))] (by decide) rfl rfl (Nat.le_of_ble_eq_true rfl) (fun C => ?_)
  show jG mX7_rules E C (jQi E C ((mRules S H P v (rR (P 0) (v 3) 60 0 0 (v 6) 0 (P 1) (P 2))).1) (wEyeC E ad qh (mRules S H P v (rR (P 0) (v 3) 60 0 0 (v 6) 0 (P 1) (P 2))).2)) 0 0 0 [(0, .ref (ad 7 0))] [] (wEye E ad qh S H P v)
  obtain ⟨okS, okH, rv1, rv2, rv0, rv3, rP0⟩ := hc0
  have hx := okS 0
  have r0 : ∀ i, 0 ≤ S 0 0 i ∧ S 0 0 i < 404000 := hx 0
  have r1 : ∀ i, 0 ≤ S 0 1 i ∧ S 0 1 i ≤ 3 := hx 1
  have r2 : ∀ i, 0 ≤ S 0 2 i ∧ S 0 2 i ≤ 2 := hx 2
  have r3 : ∀ i, -1 ≤ S 0 3 i ∧ S 0 3 i ≤ 4 := hx 3
  have r4 : ∀ i, 0 ≤ S 0 4 i ∧ S 0 4 i < 404000 := hx 4
  have r5 : ∀ i, 0 ≤ S 0 5 i ∧ S 0 5 i ≤ 512 ∧ (i < 4 → S 0 5 i ≤ 20) := hx 5
  have r6 : ∀ i, 0 ≤ S 0 6 i ∧ S 0 6 i < 404000 := hx 6
  have r7 : (-20 ≤ S 0 7 0 ∧ S 0 7 0 ≤ 20) ∧ (0 ≤ S 0 7 1 ∧ S 0 7 1 ≤ 9) ∧ (1 ≤ S 0 7 2 ∧ S 0 7 2 ≤ 20) := hx 7
  have r8 : ∀ i, S 0 8 i = 0 ∨ S 0 8 i = 1 := hx 8
  have r9 : 0 ≤ S 0 9 0 ∧ S 0 9 0 ≤ 8 := hx 9
  have r20 := r2 0
  refine j_aload_n 0 1 dX7_rules_0 rfl rfl ?_
  refine j_getB 0 0 4 1 4 in_X7_rules_X7 dX7_rules_1 rfl rfl rfl rfl (by decide) rfl rfl ?_
  refine j_callViB (wcs := [_]) (cs := [_]) 1 0 [1] 7 [_, _, _, _, _, _, _, _, _, _] (c_X4_readRules E _ _ _ _ _ _ _ _ _ _ _ _ (by omega) (by exact rP0)) rfl rfl rfl kX7_rules_X4_readRules rfl rfl rfl rfl rfl rfl rfl (Nat.le_of_ble_eq_true rfl) (by decide) dX7_rules_4 rfl ?_
  obtain ⟨T, hT⟩ : ∃ T, T = rR (P 0) (v 3) 60 0 0 (v 6) 0 (P 1) (P 2) := ⟨_, rfl⟩
  have g := rR_01 (P 0) (v 3) 60 0 0 (v 6) 0 (P 1) (P 2) (by omega)
  have g2 := rR_ok (P 0) (v 3) 60 0 0 (v 6) 0 (P 1) (P 2) (by omega) (by omega) (fun j h0 hj => absurd hj (by omega))
  rw [← hT] at g g2 ⊢
  refine j_if_ne 13 10 dX7_rules_7 rfl (by decide) (by omega) (fun h_7 => ?_) (fun h_7 => ?_)
  · skip
    refine j_aload_n 0 14 dX7_rules_13 rfl rfl ?_
    refine j_getB 0 0 4 1 17 in_X7_rules_X7 dX7_rules_14 rfl rfl rfl rfl (by decide) rfl rfl ?_
    refine j_getNB 1 0 5 10 20 in_X7_rules_X4 dX7_rules_17 rfl rfl rfl rfl (by decide) rfl rfl ?_
    have g3 : T.2.2.1 ≤ 60 := by
      have g4 := rR_cnt (P 0) (v 3) 60 0 0 (v 6) 0 (P 1) (P 2)
      rw [← hT] at g4; omega
    refine j_bipush 22 dX7_rules_20 rfl (by decide) ?_
    refine j_icmp_le 28 25 dX7_rules_22 rfl (by decide) (by omega) (by omega) (fun h_22 => ?_) (fun h_22 => ?_)
    · skip
      have e : mRules S H P v T = (T.2.2.1, cU S 0 (sRls (S 0) T.2.2.2.2.2.1 T.2.2.2.2.2.2 T.2.2.1.toNat), kH S H v, rP P T, jU (kV (rV v T)) 3 0) := by unfold mRules; rw [if_neg (by omega), if_neg (by omega)]
      rw [e]
      refine j_aload_n 0 29 dX7_rules_28 rfl rfl ?_
      refine j_getB 0 0 3 2 32 in_X7_rules_X7 dX7_rules_29 rfl rfl rfl rfl (by decide) rfl rfl ?_
      refine j_aload_n 0 33 dX7_rules_32 rfl rfl ?_
      refine j_getB 0 0 0 3 36 in_X7_rules_X7 dX7_rules_33 rfl rfl rfl rfl (by decide) rfl rfl ?_
      refine j_callVvB (wcs := [_, _, _, _, _, _]) (cs := [_, _, _, _, _, _]) 2 0 [2, 6, 7, 8, 9, 3] 39 [_, _, _, _, _, _, _, _, _, _] (c_X3_keep E _ _ _ _ _ _ _ _ (by exact hx) (by omega) (by omega)) rfl rfl rfl kX7_rules_X3_keep rfl rfl rfl rfl rfl rfl rfl (Nat.le_of_ble_eq_true rfl) (by decide) dX7_rules_36 rfl ?_
      refine j_aload_n 0 40 dX7_rules_39 rfl rfl ?_
      refine j_getB 0 0 0 3 43 in_X7_rules_X7 dX7_rules_40 rfl rfl rfl rfl (by decide) rfl rfl ?_
      refine j_getB 3 0 0 4 46 in_X7_rules_X5 dX7_rules_43 rfl rfl rfl rfl (by decide) rfl rfl ?_
      refine j_iconst 47 dX7_rules_46 rfl ?_
      refine j_putB 3 1 2 5 50 [_, (_, .inr (_, [_, _, _])), _, _, _, _, _, _, _, _, _, _, _] [_, _, _, _, _, _, _, _, _, _] tyX1 tyX1_ok nmX1 in_X7_rules_X1 dX7_rules_47 rfl rfl rfl rfl (by decide) rfl rfl rfl rfl rfl (Nat.le_of_ble_eq_true rfl) rfl rfl ?_
      refine j_iconst 51 dX7_rules_50 rfl ?_
      refine j_istore_n 52 [_, _] dX7_rules_51 rfl (by decide) rfl ?_
      have key52 : ∀ (fu i : Nat), T.2.2.1.toNat < i + fu → (i : Int) ≤ T.2.2.1 → jG mX7_rules E C (jQi E C (((T.2.2.1, cU S 0 (sRls (S 0) T.2.2.2.2.2.1 T.2.2.2.2.2.2 T.2.2.1.toNat), kH S H v, rP P T, jU (kV (rV v T)) 3 0) : Int × cSt).1) (wEyeC E ad qh ((T.2.2.1, cU S 0 (sRls (S 0) T.2.2.2.2.2.1 T.2.2.2.2.2.2 T.2.2.1.toNat), kH S H v, rP P T, jU (kV (rV v T)) 3 0) : Int × cSt).2)) 0 0 52 [(0, .ref (ad 7 0)), (1, .int (jI (i : Int)))] [] (wEye E ad qh (cU S 0 (sRls (S 0) T.2.2.2.2.2.1 T.2.2.2.2.2.2 i)) (kH S H v) (rP P T) (kV (rV v T))) := by
        intro fu
        induction fu with
        | zero => intro i h1 h2; exact absurd h1 (by omega)
        | succ fu ih =>
          intro i h1 h2
          have e9 := sRls_9 (S 0) T.2.2.2.2.2.1 T.2.2.2.2.2.2 i
          have eK : kV (rV v T) 5 = T.2.2.1 := rfl
          have e9b : cU S 0 (sRls (S 0) T.2.2.2.2.2.1 T.2.2.2.2.2.2 i) 0 9 0 = i := e9
          refine j_iload_n 1 53 dX7_rules_52 rfl rfl ?_
          refine j_aload_n 0 54 dX7_rules_53 rfl rfl ?_
          refine j_getB 0 0 4 1 57 in_X7_rules_X7 dX7_rules_54 rfl rfl rfl rfl (by decide) rfl rfl ?_
          refine j_getNB 1 0 5 10 60 in_X7_rules_X4 dX7_rules_57 rfl rfl rfl rfl (by decide) rfl rfl ?_
          refine j_icmp_ge 98 63 dX7_rules_60 rfl (by decide) (by omega) (by omega) (fun h_60 => ?_) (fun h_60 => ?_)
          · skip
            obtain rfl : i = T.2.2.1.toNat := by omega
            refine j_aload_n 0 99 dX7_rules_98 rfl rfl ?_
            refine j_getB 0 0 4 1 102 in_X7_rules_X7 dX7_rules_99 rfl rfl rfl rfl (by decide) rfl rfl ?_
            refine j_iconst 103 dX7_rules_102 rfl ?_
            refine j_putNB 1 0 3 8 106 [(_, .inr (_, [_, _, _, _, _, _, _, _])), _, _, _] [_, _, _, _, _, _, _, _, _, _] tyX4 tyX4_ok nmX4 in_X7_rules_X4 dX7_rules_103 rfl rfl rfl rfl (by decide) rfl rfl rfl rfl rfl (Nat.le_of_ble_eq_true rfl) rfl rfl ?_
            refine j_aload_n 0 107 dX7_rules_106 rfl rfl ?_
            refine j_getB 0 0 0 3 110 in_X7_rules_X7 dX7_rules_107 rfl rfl rfl rfl (by decide) rfl rfl ?_
            refine j_getB 3 0 0 4 113 in_X7_rules_X5 dX7_rules_110 rfl rfl rfl rfl (by decide) rfl rfl ?_
            refine j_getB 3 1 2 5 116 in_X7_rules_X1 dX7_rules_113 rfl rfl rfl rfl (by decide) rfl rfl ?_
            exact j_iret dX7_rules_116 rfl (by first | (show jI (sRls (S 0) T.2.2.2.2.2.1 T.2.2.2.2.2.2 T.2.2.1.toNat 9 0) = jI T.2.2.1; rw [sRls_9]; congr 1; omega) | rfl) (by rfl)
          · skip
            refine j_aload_n 0 64 dX7_rules_63 rfl rfl ?_
            refine j_getB 0 0 0 3 67 in_X7_rules_X7 dX7_rules_64 rfl rfl rfl rfl (by decide) rfl rfl ?_
            refine j_getB 3 0 0 4 70 in_X7_rules_X5 dX7_rules_67 rfl rfl rfl rfl (by decide) rfl rfl ?_
            refine j_iload_n 1 71 dX7_rules_70 rfl rfl ?_
            refine j_aload_n 0 72 dX7_rules_71 rfl rfl ?_
            refine j_getB 0 0 4 1 75 in_X7_rules_X7 dX7_rules_72 rfl rfl rfl rfl (by decide) rfl rfl ?_
            refine j_getNB 1 0 1 6 78 in_X7_rules_X4 dX7_rules_75 rfl rfl rfl rfl (by decide) rfl rfl ?_
            refine j_iload_n 1 79 dX7_rules_78 rfl rfl ?_
            refine j_ialdB 1 2 80 dX7_rules_79 rfl rfl rfl (by decide) (by omega) ?_
            refine j_aload_n 0 81 dX7_rules_80 rfl rfl ?_
            refine j_getB 0 0 4 1 84 in_X7_rules_X7 dX7_rules_81 rfl rfl rfl rfl (by decide) rfl rfl ?_
            refine j_getNB 1 0 2 7 87 in_X7_rules_X4 dX7_rules_84 rfl rfl rfl rfl (by decide) rfl rfl ?_
            refine j_iload_n 1 88 dX7_rules_87 rfl rfl ?_
            refine j_ialdB 1 3 89 dX7_rules_88 rfl rfl rfl (by decide) (by omega) ?_
            refine j_callVvP 3 1 [1, 2, 3] 92 [_, _, _, _, _, _, _, _, _, _, _, _, _] [_, _, _, _, _, _, _, _, _, _] (c_X1_insert E _ _ _ _ _ _ _ _ _ (by omega) (by omega)) rfl kX7_rules_X1_insert rfl rfl rfl rfl rfl rfl rfl rfl rfl (Nat.le_of_ble_eq_true rfl) (by decide) dX7_rules_89 rfl ?_
            refine j_iinc 1 95 [_, _] dX7_rules_92 rfl rfl (by decide) rfl ?_
            refine j_goto 52 dX7_rules_95 (by decide) ?_
            refine j_perm [1, 0] rfl ?_
            have k := ih (i + 1) (by omega) (by omega)
            exact k
      refine j_perm [1, 0] rfl ?_
      exact key52 (T.2.2.1.toNat + 1) 0 (by omega) (by omega)
    · skip
      have e : mRules S H P v T = (-3, S, H, rP P T, rV v T) := by unfold mRules; rw [if_neg (by omega), if_pos (by omega)]
      rw [e]
      refine j_bipush 27 dX7_rules_25 rfl (by decide) ?_
      exact j_iret dX7_rules_27 rfl (by first | rfl | (exfalso; omega)) (by rfl)
  · skip
    have e : mRules S H P v T = (-2, S, H, rP P T, rV v T) := if_pos h_7
    rw [e]
    refine j_bipush 12 dX7_rules_10 rfl (by decide) ?_
    exact j_iret dX7_rules_12 rfl (by first | rfl | (exfalso; omega)) (by rfl)
set_option maxRecDepth 20000 in
theorem in_X7_run_X7 : ∀ x ∈ u_ws RX7 TX7 6, x ∈ wsX7_run := by decide +kernel
theorem kX7_run_X4_readApples : jKv mX7_run 125 yX4_readApples wsX4_readApples rmX4_readApples 0 := ⟨gX7_run_X4_readApples, ⟨_, _, _, _, rfl, by decide⟩, by decide +kernel, rfl, rfl, by decide⟩
set_option maxRecDepth 20000 in
theorem in_X7_run_X5 : ∀ x ∈ u_ws RX5 TX5 11, x ∈ wsX7_run := by decide +kernel
set_option maxRecDepth 20000 in
theorem in_X7_run_X0 : ∀ x ∈ u_ws RX0 TX0 3, x ∈ wsX7_run := by decide +kernel
theorem kX7_run_X3_keep : jKv mX7_run 56 yX3_keep wsX3_keep rmX3_keep 1 := ⟨gX7_run_X3_keep, ⟨_, _, _, _, rfl, by decide⟩, by decide +kernel, rfl, rfl, by decide⟩
set_option maxRecDepth 20000 in
theorem in_X7_run_X4 : ∀ x ∈ u_ws RX4 TX4 8, x ∈ wsX7_run := by decide +kernel
theorem kX7_run_X5_tick : jKv mX7_run 68 yX5_tick wsX5_tick rmX5_tick 0 := ⟨gX7_run_X5_tick, ⟨_, _, _, _, rfl, by decide⟩, by decide +kernel, rfl, rfl, by decide⟩
theorem kX7_run_X5_layApple : jKv mX7_run 64 yX5_layApple wsX5_layApple rmX5_layApple 1 := ⟨gX7_run_X5_layApple, ⟨_, _, _, _, rfl, by decide⟩, by decide +kernel, rfl, rfl, by decide⟩
set_option maxRecDepth 100000 in
set_option maxHeartbeats 4000000 in
theorem c_X7_run (E : jE) (ad qh : Nat → Nat → Nat) (S H : Nat → Nat → Int → Int) (P : Nat → Int → Int) (v : Int → Int)  (hc0 : cOK S H P v) (hg : sInv (S 0) (512 - v 3)) : jMI E yX7_run wsX7_run rmX7_run [.ref (ad 7 0)] (wEye E ad qh S H P v) ((mRun S H P v (rA (P 0) (v 3) 60 0 0 0 (v 6) 0 (P 1) (P 2))).1) (wEyeC E ad qh (mRun S H P v (rA (P 0) (v 3) 60 0 0 0 (v 6) 0 (P 1) (P 2))).2) := by
  refine jMI_of (cc := cX7_run) (maxL := 4) (ret := (some .int)) [(0, .ref (ad 7 0))] (by decide) rfl rfl (Nat.le_of_ble_eq_true rfl) (fun C => ?_)
  show jG mX7_run E C (jQi E C ((mRun S H P v (rA (P 0) (v 3) 60 0 0 0 (v 6) 0 (P 1) (P 2))).1) (wEyeC E ad qh (mRun S H P v (rA (P 0) (v 3) 60 0 0 0 (v 6) 0 (P 1) (P 2))).2)) 0 0 0 [(0, .ref (ad 7 0))] [] (wEye E ad qh S H P v)
  obtain ⟨okS, okH, rv1, rv2, rv0, rv3, rP0⟩ := hc0
  have hx := okS 0
  have r0 : ∀ i, 0 ≤ S 0 0 i ∧ S 0 0 i < 404000 := hx 0
  have r1 : ∀ i, 0 ≤ S 0 1 i ∧ S 0 1 i ≤ 3 := hx 1
  have r2 : ∀ i, 0 ≤ S 0 2 i ∧ S 0 2 i ≤ 2 := hx 2
  have r3 : ∀ i, -1 ≤ S 0 3 i ∧ S 0 3 i ≤ 4 := hx 3
  have r4 : ∀ i, 0 ≤ S 0 4 i ∧ S 0 4 i < 404000 := hx 4
  have r5 : ∀ i, 0 ≤ S 0 5 i ∧ S 0 5 i ≤ 512 ∧ (i < 4 → S 0 5 i ≤ 20) := hx 5
  have r6 : ∀ i, 0 ≤ S 0 6 i ∧ S 0 6 i < 404000 := hx 6
  have r7 : (-20 ≤ S 0 7 0 ∧ S 0 7 0 ≤ 20) ∧ (0 ≤ S 0 7 1 ∧ S 0 7 1 ≤ 9) ∧ (1 ≤ S 0 7 2 ∧ S 0 7 2 ≤ 20) := hx 7
  have r8 : ∀ i, S 0 8 i = 0 ∨ S 0 8 i = 1 := hx 8
  have r9 : 0 ≤ S 0 9 0 ∧ S 0 9 0 ≤ 8 := hx 9
  have r20 := r2 0
  refine j_aload_n 0 1 dX7_run_0 rfl rfl ?_
  refine j_getB 0 0 4 1 4 in_X7_run_X7 dX7_run_1 rfl rfl rfl rfl (by decide) rfl rfl ?_
  refine j_callViB (wcs := [_]) (cs := [_]) 1 0 [1] 7 [_, _, _, _, _, _, _, _, _, _] (c_X4_readApples E _ _ _ _ _ _ _ _ _ _ _ _ (by omega) (by exact rP0)) rfl rfl rfl kX7_run_X4_readApples rfl rfl rfl rfl rfl rfl rfl (Nat.le_of_ble_eq_true rfl) (by decide) dX7_run_4 rfl ?_
  obtain ⟨T, hT⟩ : ∃ T, T = rA (P 0) (v 3) 60 0 0 0 (v 6) 0 (P 1) (P 2) := ⟨_, rfl⟩
  have g := rA_01 (P 0) (v 3) 60 0 0 0 (v 6) 0 (P 1) (P 2) (by omega)
  have g2 := rA_ok (P 0) (v 3) 60 0 0 0 (v 6) 0 (P 1) (P 2) (by omega) (by omega) (by omega) (Or.inl rfl) (fun j h0 hj => absurd hj (by omega))
  rw [← hT] at g g2 ⊢
  refine j_if_ne 13 10 dX7_run_7 rfl (by decide) (by omega) (fun h_7 => ?_) (fun h_7 => ?_)
  · skip
    have g3 := g2.2.2 (by omega)
    refine j_aload_n 0 14 dX7_run_13 rfl rfl ?_
    refine j_getB 0 0 0 2 17 in_X7_run_X7 dX7_run_14 rfl rfl rfl rfl (by decide) rfl rfl ?_
    refine j_getB 3 0 1 3 20 in_X7_run_X5 dX7_run_17 rfl rfl rfl rfl (by decide) rfl rfl ?_
    refine j_getB 3 4 0 4 23 in_X7_run_X0 dX7_run_20 rfl rfl rfl rfl (by decide) rfl rfl ?_
    refine j_iconst 24 dX7_run_23 rfl ?_
    refine j_ialdB 3 5 25 dX7_run_24 rfl rfl rfl (by decide) (by omega) ?_
    refine j_if_le 31 28 dX7_run_25 rfl (by decide) (by omega) (fun h_25 => ?_) (fun h_25 => ?_)
    · skip
      have e : mRun S H P v T = ((sRun (S 0) T.2.2.2.2.2.1 T.2.2.2.2.2.2 T.2.2.1 T.2.2.1.toNat).2, cU S 0 (sRun (S 0) T.2.2.2.2.2.1 T.2.2.2.2.2.2 T.2.2.1 T.2.2.1.toNat).1, kH S H v, rP P T, jU (kV (rV v T)) 3 0) := by unfold mRun; rw [if_neg (by omega), if_neg (by omega)]
      rw [e]
      refine j_aload_n 0 32 dX7_run_31 rfl rfl ?_
      refine j_getB 0 0 3 5 35 in_X7_run_X7 dX7_run_32 rfl rfl rfl rfl (by decide) rfl rfl ?_
      refine j_aload_n 0 36 dX7_run_35 rfl rfl ?_
      refine j_getB 0 0 0 2 39 in_X7_run_X7 dX7_run_36 rfl rfl rfl rfl (by decide) rfl rfl ?_
      refine j_callVvB (wcs := [_, _, _, _, _, _]) (cs := [_, _, _, _, _, _]) 2 0 [2, 6, 7, 8, 9, 3] 42 [_, _, _, _, _, _, _, _, _, _] (c_X3_keep E _ _ _ _ _ _ _ _ (by exact hx) (by omega) (by omega)) rfl rfl rfl kX7_run_X3_keep rfl rfl rfl rfl rfl rfl rfl (Nat.le_of_ble_eq_true rfl) (by decide) dX7_run_39 rfl ?_
      refine j_iconst 43 dX7_run_42 rfl ?_
      refine j_istore_n 44 [_, _] dX7_run_43 rfl (by decide) rfl ?_
      refine j_iconst 45 dX7_run_44 rfl ?_
      refine j_istore_n 46 [_, _, _] dX7_run_45 rfl (by decide) rfl ?_
      have key46 : ∀ (fu i : Nat), T.2.2.1.toNat < i + fu → (i : Int) ≤ T.2.2.1 → jG mX7_run E C (jQi E C ((((sRun (S 0) T.2.2.2.2.2.1 T.2.2.2.2.2.2 T.2.2.1 T.2.2.1.toNat).2, cU S 0 (sRun (S 0) T.2.2.2.2.2.1 T.2.2.2.2.2.2 T.2.2.1 T.2.2.1.toNat).1, kH S H v, rP P T, jU (kV (rV v T)) 3 0) : Int × cSt).1) (wEyeC E ad qh (((sRun (S 0) T.2.2.2.2.2.1 T.2.2.2.2.2.2 T.2.2.1 T.2.2.1.toNat).2, cU S 0 (sRun (S 0) T.2.2.2.2.2.1 T.2.2.2.2.2.2 T.2.2.1 T.2.2.1.toNat).1, kH S H v, rP P T, jU (kV (rV v T)) 3 0) : Int × cSt).2)) 0 0 46 [(0, .ref (ad 7 0)), (1, .int (jI (sRun (S 0) T.2.2.2.2.2.1 T.2.2.2.2.2.2 T.2.2.1 i).2)), (2, .int (jI (i : Int)))] [] (wEye E ad qh (cU S 0 (sRun (S 0) T.2.2.2.2.2.1 T.2.2.2.2.2.2 T.2.2.1 i).1) (kH S H v) (rP P T) (kV (rV v T))) := by
        intro fu
        induction fu with
        | zero => intro i h1 h2; exact absurd h1 (by omega)
        | succ fu ih =>
          intro i h1 h2
          have iv := sRun_inv hg (by omega) (by omega) g2.1 i (by omega)
          have iv2 : (sRun (S 0) T.2.2.2.2.2.1 T.2.2.2.2.2.2 T.2.2.1 i).1 2 0 < 2 := by rw [iv.2]; split <;> omega
          have eK : kV (rV v T) 5 = T.2.2.1 := rfl
          have eZ : rP P T 2 i = T.2.2.2.2.2.2 i := rfl
          have eZ1 : rP P T 2 ((i : Int) + 1) = T.2.2.2.2.2.2 ((i : Int) + 1) := rfl
          refine j_iload_n 2 47 dX7_run_46 rfl rfl ?_
          refine j_aload_n 0 48 dX7_run_47 rfl rfl ?_
          refine j_getB 0 0 4 1 51 in_X7_run_X7 dX7_run_48 rfl rfl rfl rfl (by decide) rfl rfl ?_
          refine j_getNB 1 0 5 10 54 in_X7_run_X4 dX7_run_51 rfl rfl rfl rfl (by decide) rfl rfl ?_
          refine j_icmp_ge 139 57 dX7_run_54 rfl (by decide) (by omega) (by omega) (fun h_54 => ?_) (fun h_54 => ?_)
          · skip
            obtain rfl : i = T.2.2.1.toNat := by omega
            refine j_aload_n 0 140 dX7_run_139 rfl rfl ?_
            refine j_getB 0 0 4 1 143 in_X7_run_X7 dX7_run_140 rfl rfl rfl rfl (by decide) rfl rfl ?_
            refine j_iconst 144 dX7_run_143 rfl ?_
            refine j_putNB 1 0 3 8 147 [(_, .inr (_, [_, _, _, _, _, _, _, _])), _, _, _] [_, _, _, _, _, _, _, _, _, _] tyX4 tyX4_ok nmX4 in_X7_run_X4 dX7_run_144 rfl rfl rfl rfl (by decide) rfl rfl rfl rfl rfl (Nat.le_of_ble_eq_true rfl) rfl rfl ?_
            refine j_iload_n 1 148 dX7_run_147 rfl rfl ?_
            exact j_iret dX7_run_148 rfl (by first | rfl | (exfalso; omega)) (by rfl)
          · skip
            have o := g2.1 i (by omega) (by omega)
            refine j_aload_n 0 58 dX7_run_57 rfl rfl ?_
            refine j_getB 0 0 4 1 61 in_X7_run_X7 dX7_run_58 rfl rfl rfl rfl (by decide) rfl rfl ?_
            refine j_getNB 1 0 2 7 64 in_X7_run_X4 dX7_run_61 rfl rfl rfl rfl (by decide) rfl rfl ?_
            refine j_iload_n 2 65 dX7_run_64 rfl rfl ?_
            refine j_ialdB 1 3 66 dX7_run_65 rfl rfl rfl (by decide) (by omega) ?_
            refine j_if_eq 85 69 dX7_run_66 rfl (by decide) (by omega) (fun h_66 => ?_) (fun h_66 => ?_)
            · skip
              have L : sInv (sRun (S 0) T.2.2.2.2.2.1 T.2.2.2.2.2.2 T.2.2.1 i).1 (512 - v 3 + i + 1) := ⟨iv.1.1, iv.1.2.1, by have := iv.1.2.2; omega⟩
              have e1 : sRun1 (sRun (S 0) T.2.2.2.2.2.1 T.2.2.2.2.2.2 T.2.2.1 i).1 T.2.2.2.2.2.1 T.2.2.2.2.2.2 i = (sRun (S 0) T.2.2.2.2.2.1 T.2.2.2.2.2.2 T.2.2.1 i).1 := if_pos h_66
              refine j_iload_n 2 86 dX7_run_85 rfl rfl ?_
              refine j_iconst 87 dX7_run_86 rfl ?_
              refine j_iadd 88 dX7_run_87 rfl ?_
              refine j_aload_n 0 89 dX7_run_88 rfl rfl ?_
              refine j_getB 0 0 4 1 92 in_X7_run_X7 dX7_run_89 rfl rfl rfl rfl (by decide) rfl rfl ?_
              refine j_getNB 1 0 5 10 95 in_X7_run_X4 dX7_run_92 rfl rfl rfl rfl (by decide) rfl rfl ?_
              refine j_icmp_ge 117 98 dX7_run_95 rfl (by decide) (by omega) (by omega) (fun h_95 => ?_) (fun h_95 => ?_)
              · skip
                have eS : sRun (S 0) T.2.2.2.2.2.1 T.2.2.2.2.2.2 T.2.2.1 (i + 1) = (sTick (sRun1 (sRun (S 0) T.2.2.2.2.2.1 T.2.2.2.2.2.2 T.2.2.1 i).1 T.2.2.2.2.2.1 T.2.2.2.2.2.2 i), (sRun (S 0) T.2.2.2.2.2.1 T.2.2.2.2.2.2 T.2.2.1 i).2 + sTickN (sRun1 (sRun (S 0) T.2.2.2.2.2.1 T.2.2.2.2.2.2 T.2.2.1 i).1 T.2.2.2.2.2.1 T.2.2.2.2.2.2 i)) := if_neg (by omega)
                rw [e1] at eS
                refine j_iconst 118 dX7_run_117 rfl ?_
                refine j_istore_n 119 [_, _, _, _] dX7_run_118 rfl (by decide) rfl ?_
                refine j_iload_n 0 120 dX7_run_119 rfl rfl ?_
                refine j_if_ne 133 123 dX7_run_120 rfl (by decide) (by decide) (fun h => absurd h (by decide)) (fun _ => ?_)
                refine j_iload_n 2 124 dX7_run_123 rfl rfl ?_
                refine j_aload_n 1 125 dX7_run_124 rfl rfl ?_
                refine j_getB 0 0 0 2 128 in_X7_run_X7 dX7_run_125 rfl rfl rfl rfl (by decide) rfl rfl ?_
                refine j_callViB (wcs := [_]) (cs := [_]) 3 0 [3] 131 [_, _, _, _, _, _, _, _, _, _] (c_X5_tick E _ _ (by exact L.1) (by exact sInv_11 L (by omega))) rfl rfl rfl kX7_run_X5_tick rfl rfl rfl rfl rfl rfl rfl (Nat.le_of_ble_eq_true rfl) (by decide) dX7_run_128 rfl ?_
                refine j_iadd 132 dX7_run_131 rfl ?_
                refine j_istore_n 133 [_, _, _, _] dX7_run_132 rfl (by decide) rfl ?_
                refine j_iinc 3 136 [_, _, _, _] dX7_run_133 rfl rfl (by decide) rfl ?_
                refine j_goto 46 dX7_run_136 (by decide) ?_
                refine j_perm [3, 1, 0] rfl ?_
                have k := ih (i + 1) (by omega) (by omega)
                rw [eS] at k
                exact k
              · skip
                refine j_aload_n 0 99 dX7_run_98 rfl rfl ?_
                refine j_getB 0 0 4 1 102 in_X7_run_X7 dX7_run_99 rfl rfl rfl rfl (by decide) rfl rfl ?_
                refine j_getNB 1 0 2 7 105 in_X7_run_X4 dX7_run_102 rfl rfl rfl rfl (by decide) rfl rfl ?_
                refine j_iload_n 2 106 dX7_run_105 rfl rfl ?_
                refine j_iconst 107 dX7_run_106 rfl ?_
                refine j_iadd 108 dX7_run_107 rfl ?_
                refine j_ialdB 1 3 109 dX7_run_108 rfl rfl rfl (by decide) (by omega) ?_
                have o3 := g2.1 ((i : Int) + 1) (by omega) (by omega)
                refine j_iconst 110 dX7_run_109 rfl ?_
                refine j_icmp_ne 117 113 dX7_run_110 rfl (by decide) (by omega) (by omega) (fun h_110 => ?_) (fun h_110 => ?_)
                · skip
                  have eS : sRun (S 0) T.2.2.2.2.2.1 T.2.2.2.2.2.2 T.2.2.1 (i + 1) = (sTick (sRun1 (sRun (S 0) T.2.2.2.2.2.1 T.2.2.2.2.2.2 T.2.2.1 i).1 T.2.2.2.2.2.1 T.2.2.2.2.2.2 i), (sRun (S 0) T.2.2.2.2.2.1 T.2.2.2.2.2.2 T.2.2.1 i).2 + sTickN (sRun1 (sRun (S 0) T.2.2.2.2.2.1 T.2.2.2.2.2.2 T.2.2.1 i).1 T.2.2.2.2.2.1 T.2.2.2.2.2.2 i)) := if_neg (by omega)
                  rw [e1] at eS
                  refine j_iconst 118 dX7_run_117 rfl ?_
                  refine j_istore_n 119 [_, _, _, _] dX7_run_118 rfl (by decide) rfl ?_
                  refine j_iload_n 0 120 dX7_run_119 rfl rfl ?_
                  refine j_if_ne 133 123 dX7_run_120 rfl (by decide) (by decide) (fun h => absurd h (by decide)) (fun _ => ?_)
                  refine j_iload_n 2 124 dX7_run_123 rfl rfl ?_
                  refine j_aload_n 1 125 dX7_run_124 rfl rfl ?_
                  refine j_getB 0 0 0 2 128 in_X7_run_X7 dX7_run_125 rfl rfl rfl rfl (by decide) rfl rfl ?_
                  refine j_callViB (wcs := [_]) (cs := [_]) 3 0 [3] 131 [_, _, _, _, _, _, _, _, _, _] (c_X5_tick E _ _ (by exact L.1) (by exact sInv_11 L (by omega))) rfl rfl rfl kX7_run_X5_tick rfl rfl rfl rfl rfl rfl rfl (Nat.le_of_ble_eq_true rfl) (by decide) dX7_run_128 rfl ?_
                  refine j_iadd 132 dX7_run_131 rfl ?_
                  refine j_istore_n 133 [_, _, _, _] dX7_run_132 rfl (by decide) rfl ?_
                  refine j_iinc 3 136 [_, _, _, _] dX7_run_133 rfl rfl (by decide) rfl ?_
                  refine j_goto 46 dX7_run_136 (by decide) ?_
                  refine j_perm [3, 1, 0] rfl ?_
                  have k := ih (i + 1) (by omega) (by omega)
                  rw [eS] at k
                  exact k
                · skip
                  have eS : sRun (S 0) T.2.2.2.2.2.1 T.2.2.2.2.2.2 T.2.2.1 (i + 1) = (sRun1 (sRun (S 0) T.2.2.2.2.2.1 T.2.2.2.2.2.2 T.2.2.1 i).1 T.2.2.2.2.2.1 T.2.2.2.2.2.2 i, (sRun (S 0) T.2.2.2.2.2.1 T.2.2.2.2.2.2 T.2.2.1 i).2) := if_pos (by omega)
                  rw [e1] at eS
                  refine j_iconst 114 dX7_run_113 rfl ?_
                  refine j_goto 118 dX7_run_114 (by decide) ?_
                  refine j_istore_n 119 [_, _, _, _] dX7_run_118 rfl (by decide) rfl ?_
                  refine j_iload_n 0 120 dX7_run_119 rfl rfl ?_
                  refine j_if_ne 133 123 dX7_run_120 rfl (by decide) (by decide) (fun _ => ?_) (fun h => absurd h (by decide))
                  refine j_iinc 3 136 [_, _, _, _] dX7_run_133 rfl rfl (by decide) rfl ?_
                  refine j_goto 46 dX7_run_136 (by decide) ?_
                  refine j_perm [2, 3, 0] rfl ?_
                  have k := ih (i + 1) (by omega) (by omega)
                  rw [eS] at k
                  exact k
            · skip
              have L := sInv_lay iv.1 iv2 (o.2.1 h_66)
              have e1 : sRun1 (sRun (S 0) T.2.2.2.2.2.1 T.2.2.2.2.2.2 T.2.2.1 i).1 T.2.2.2.2.2.1 T.2.2.2.2.2.2 i = sLay (sRun (S 0) T.2.2.2.2.2.1 T.2.2.2.2.2.2 T.2.2.1 i).1 (T.2.2.2.2.2.1 i) := if_neg h_66
              refine j_aload_n 0 70 dX7_run_69 rfl rfl ?_
              refine j_getB 0 0 0 2 73 in_X7_run_X7 dX7_run_70 rfl rfl rfl rfl (by decide) rfl rfl ?_
              refine j_aload_n 0 74 dX7_run_73 rfl rfl ?_
              refine j_getB 0 0 4 1 77 in_X7_run_X7 dX7_run_74 rfl rfl rfl rfl (by decide) rfl rfl ?_
              refine j_getNB 1 0 1 6 80 in_X7_run_X4 dX7_run_77 rfl rfl rfl rfl (by decide) rfl rfl ?_
              refine j_iload_n 2 81 dX7_run_80 rfl rfl ?_
              refine j_ialdB 1 2 82 dX7_run_81 rfl rfl rfl (by decide) (by omega) ?_
              refine j_callVvB (wcs := [_]) (cs := [_]) 3 0 [3] 85 [_, _, _, _, _, _, _, _, _, _] (c_X5_layApple E _ (sRun (S 0) T.2.2.2.2.2.1 T.2.2.2.2.2.2 T.2.2.1 i).1 _ (by exact iv.1.1) (by exact iv2)) rfl rfl rfl kX7_run_X5_layApple rfl rfl rfl rfl rfl rfl rfl (Nat.le_of_ble_eq_true rfl) (by decide) dX7_run_82 rfl ?_
              refine j_iload_n 2 86 dX7_run_85 rfl rfl ?_
              refine j_iconst 87 dX7_run_86 rfl ?_
              refine j_iadd 88 dX7_run_87 rfl ?_
              refine j_aload_n 0 89 dX7_run_88 rfl rfl ?_
              refine j_getB 0 0 4 1 92 in_X7_run_X7 dX7_run_89 rfl rfl rfl rfl (by decide) rfl rfl ?_
              refine j_getNB 1 0 5 10 95 in_X7_run_X4 dX7_run_92 rfl rfl rfl rfl (by decide) rfl rfl ?_
              refine j_icmp_ge 117 98 dX7_run_95 rfl (by decide) (by omega) (by omega) (fun h_95 => ?_) (fun h_95 => ?_)
              · skip
                have eS : sRun (S 0) T.2.2.2.2.2.1 T.2.2.2.2.2.2 T.2.2.1 (i + 1) = (sTick (sRun1 (sRun (S 0) T.2.2.2.2.2.1 T.2.2.2.2.2.2 T.2.2.1 i).1 T.2.2.2.2.2.1 T.2.2.2.2.2.2 i), (sRun (S 0) T.2.2.2.2.2.1 T.2.2.2.2.2.2 T.2.2.1 i).2 + sTickN (sRun1 (sRun (S 0) T.2.2.2.2.2.1 T.2.2.2.2.2.2 T.2.2.1 i).1 T.2.2.2.2.2.1 T.2.2.2.2.2.2 i)) := if_neg (by omega)
                rw [e1] at eS
                refine j_iconst 118 dX7_run_117 rfl ?_
                refine j_istore_n 119 [_, _, _, _] dX7_run_118 rfl (by decide) rfl ?_
                refine j_iload_n 0 120 dX7_run_119 rfl rfl ?_
                refine j_if_ne 133 123 dX7_run_120 rfl (by decide) (by decide) (fun h => absurd h (by decide)) (fun _ => ?_)
                refine j_iload_n 2 124 dX7_run_123 rfl rfl ?_
                refine j_aload_n 1 125 dX7_run_124 rfl rfl ?_
                refine j_getB 0 0 0 2 128 in_X7_run_X7 dX7_run_125 rfl rfl rfl rfl (by decide) rfl rfl ?_
                refine j_callViB (wcs := [_]) (cs := [_]) 3 0 [3] 131 [_, _, _, _, _, _, _, _, _, _] (c_X5_tick E _ _ (by exact L.1) (by exact sInv_11 L (by omega))) rfl rfl rfl kX7_run_X5_tick rfl rfl rfl rfl rfl rfl rfl (Nat.le_of_ble_eq_true rfl) (by decide) dX7_run_128 rfl ?_
                refine j_iadd 132 dX7_run_131 rfl ?_
                refine j_istore_n 133 [_, _, _, _] dX7_run_132 rfl (by decide) rfl ?_
                refine j_iinc 3 136 [_, _, _, _] dX7_run_133 rfl rfl (by decide) rfl ?_
                refine j_goto 46 dX7_run_136 (by decide) ?_
                refine j_perm [3, 1, 0] rfl ?_
                have k := ih (i + 1) (by omega) (by omega)
                rw [eS] at k
                exact k
              · skip
                refine j_aload_n 0 99 dX7_run_98 rfl rfl ?_
                refine j_getB 0 0 4 1 102 in_X7_run_X7 dX7_run_99 rfl rfl rfl rfl (by decide) rfl rfl ?_
                refine j_getNB 1 0 2 7 105 in_X7_run_X4 dX7_run_102 rfl rfl rfl rfl (by decide) rfl rfl ?_
                refine j_iload_n 2 106 dX7_run_105 rfl rfl ?_
                refine j_iconst 107 dX7_run_106 rfl ?_
                refine j_iadd 108 dX7_run_107 rfl ?_
                refine j_ialdB 1 3 109 dX7_run_108 rfl rfl rfl (by decide) (by omega) ?_
                have o3 := g2.1 ((i : Int) + 1) (by omega) (by omega)
                refine j_iconst 110 dX7_run_109 rfl ?_
                refine j_icmp_ne 117 113 dX7_run_110 rfl (by decide) (by omega) (by omega) (fun h_110 => ?_) (fun h_110 => ?_)
                · skip
                  have eS : sRun (S 0) T.2.2.2.2.2.1 T.2.2.2.2.2.2 T.2.2.1 (i + 1) = (sTick (sRun1 (sRun (S 0) T.2.2.2.2.2.1 T.2.2.2.2.2.2 T.2.2.1 i).1 T.2.2.2.2.2.1 T.2.2.2.2.2.2 i), (sRun (S 0) T.2.2.2.2.2.1 T.2.2.2.2.2.2 T.2.2.1 i).2 + sTickN (sRun1 (sRun (S 0) T.2.2.2.2.2.1 T.2.2.2.2.2.2 T.2.2.1 i).1 T.2.2.2.2.2.1 T.2.2.2.2.2.2 i)) := if_neg (by omega)
                  rw [e1] at eS
                  refine j_iconst 118 dX7_run_117 rfl ?_
                  refine j_istore_n 119 [_, _, _, _] dX7_run_118 rfl (by decide) rfl ?_
                  refine j_iload_n 0 120 dX7_run_119 rfl rfl ?_
                  refine j_if_ne 133 123 dX7_run_120 rfl (by decide) (by decide) (fun h => absurd h (by decide)) (fun _ => ?_)
                  refine j_iload_n 2 124 dX7_run_123 rfl rfl ?_
                  refine j_aload_n 1 125 dX7_run_124 rfl rfl ?_
                  refine j_getB 0 0 0 2 128 in_X7_run_X7 dX7_run_125 rfl rfl rfl rfl (by decide) rfl rfl ?_
                  refine j_callViB (wcs := [_]) (cs := [_]) 3 0 [3] 131 [_, _, _, _, _, _, _, _, _, _] (c_X5_tick E _ _ (by exact L.1) (by exact sInv_11 L (by omega))) rfl rfl rfl kX7_run_X5_tick rfl rfl rfl rfl rfl rfl rfl (Nat.le_of_ble_eq_true rfl) (by decide) dX7_run_128 rfl ?_
                  refine j_iadd 132 dX7_run_131 rfl ?_
                  refine j_istore_n 133 [_, _, _, _] dX7_run_132 rfl (by decide) rfl ?_
                  refine j_iinc 3 136 [_, _, _, _] dX7_run_133 rfl rfl (by decide) rfl ?_
                  refine j_goto 46 dX7_run_136 (by decide) ?_
                  refine j_perm [3, 1, 0] rfl ?_
                  have k := ih (i + 1) (by omega) (by omega)
                  rw [eS] at k
                  exact k
                · skip
                  have eS : sRun (S 0) T.2.2.2.2.2.1 T.2.2.2.2.2.2 T.2.2.1 (i + 1) = (sRun1 (sRun (S 0) T.2.2.2.2.2.1 T.2.2.2.2.2.2 T.2.2.1 i).1 T.2.2.2.2.2.1 T.2.2.2.2.2.2 i, (sRun (S 0) T.2.2.2.2.2.1 T.2.2.2.2.2.2 T.2.2.1 i).2) := if_pos (by omega)
                  rw [e1] at eS
                  refine j_iconst 114 dX7_run_113 rfl ?_
                  refine j_goto 118 dX7_run_114 (by decide) ?_
                  refine j_istore_n 119 [_, _, _, _] dX7_run_118 rfl (by decide) rfl ?_
                  refine j_iload_n 0 120 dX7_run_119 rfl rfl ?_
                  refine j_if_ne 133 123 dX7_run_120 rfl (by decide) (by decide) (fun _ => ?_) (fun h => absurd h (by decide))
                  refine j_iinc 3 136 [_, _, _, _] dX7_run_133 rfl rfl (by decide) rfl ?_
                  refine j_goto 46 dX7_run_136 (by decide) ?_
                  refine j_perm [2, 3, 0] rfl ?_
                  have k := ih (i + 1) (by omega) (by omega)
                  rw [eS] at k
                  exact k
      refine j_perm [2, 1, 0] rfl ?_
      exact key46 (T.2.2.1.toNat + 1) 0 (by omega) (by omega)
    · skip
      have e : mRun S H P v T = (-3, S, H, rP P T, rV v T) := by unfold mRun; rw [if_neg (by omega), if_pos (by omega)]
      rw [e]
      refine j_bipush 30 dX7_run_28 rfl (by decide) ?_
      exact j_iret dX7_run_30 rfl (by first | rfl | (exfalso; omega)) (by rfl)
  · skip
    have e : mRun S H P v T = (-2, S, H, rP P T, rV v T) := if_pos h_7
    rw [e]
    refine j_bipush 12 dX7_run_10 rfl (by decide) ?_
    exact j_iret dX7_run_12 rfl (by first | rfl | (exfalso; omega)) (by rfl)
