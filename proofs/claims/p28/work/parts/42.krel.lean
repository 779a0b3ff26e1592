/-- shifts of the water's bits -/
theorem jWat : ∀ w l : Int, 0 ≤ w ∧ w ≤ 15 → 0 ≤ l ∧ l < 4 → (jI w >>> (jI l &&& 31)) &&& jI 1 = jI (w / 2 ^ l.toNat % 2) := by
  intro w l hw hl
  have key : ∀ a : Nat, a < 16 → ∀ b : Nat, b < 4 → (jI (a : Int) >>> (jI (b : Int) &&& 31)) &&& jI 1 = jI ((a : Int) / 2 ^ (b : Int).toNat % 2) := by decide +kernel
  have h1 := key w.toNat (by omega) l.toNat (by omega)
  have e1 : (w.toNat : Int) = w := by omega
  have e2 : (l.toNat : Int) = l := by omega
  rw [e1, e2] at h1
  exact h1
def wXor (w l : Int) : Int := if w / 2 ^ l.toNat % 2 = 0 then w + 2 ^ l.toNat else w - 2 ^ l.toNat
theorem jXor : ∀ w l : Int, 0 ≤ w ∧ w ≤ 15 → 0 ≤ l ∧ l < 4 → (jI w ^^^ (jI 1 <<< (jI l &&& 31)) = jI (wXor w l) ∧ (0 ≤ wXor w l ∧ wXor w l ≤ 15) ∧ wXor w l / 2 ^ l.toNat % 2 = 1 - w / 2 ^ l.toNat % 2) ∧ ∀ k : Int, 0 ≤ k ∧ k < 4 → k ≠ l → wXor w l / 2 ^ k.toNat % 2 = w / 2 ^ k.toNat % 2 := by
  intro w l hw hl
  have key : ∀ a : Nat, a < 16 → ∀ b : Nat, b < 4 → (jI (a : Int) ^^^ (jI 1 <<< (jI (b : Int) &&& 31)) = jI (wXor (a : Int) (b : Int)) ∧ (0 ≤ wXor (a : Int) (b : Int) ∧ wXor (a : Int) (b : Int) ≤ 15) ∧ wXor (a : Int) (b : Int) / 2 ^ (b : Int).toNat % 2 = 1 - (a : Int) / 2 ^ (b : Int).toNat % 2) ∧ ∀ k : Nat, k < 4 → k ≠ b → wXor (a : Int) (b : Int) / 2 ^ (k : Int).toNat % 2 = (a : Int) / 2 ^ (k : Int).toNat % 2 := by decide +kernel
  have h1 := key w.toNat (by omega) l.toNat (by omega)
  have e1 : (w.toNat : Int) = w := by omega
  have e2 : (l.toNat : Int) = l := by omega
  rw [e1, e2] at h1
  refine ⟨h1.1, fun k hk hkl => ?_⟩
  have h2 := h1.2 k.toNat (by omega) (by omega)
  have e3 : (k.toNat : Int) = k := by omega
  rw [e3] at h2
  exact h2
/-! the law's rows against a State's rows: c cups, b boxes, n numbers, u rules, e rests -/
def pk (t : Int) : Int := tW t * 10000 + tR t * 10 + tB t
theorem pk_num {w r d : Int} (hw : 0 ≤ w) (hr : 0 ≤ r ∧ r ≤ 100) (hd : 0 ≤ d ∧ d ≤ 9) : (w * 10000 + r * 10 + d) / 10000 = w ∧ (w * 10000 + r * 10 + d) / 10 % 1000 = r ∧ (w * 10000 + r * 10 + d) % 10 = d := by
  refine ⟨by omega, by omega, by omega⟩
theorem pk_parts {t : Int} (h : 0 ≤ t) : pk t / 10000 = tW t ∧ pk t / 10 % 1000 = tR t ∧ pk t % 10 = tB t :=
  pk_num (by unfold tW; omega) (tR_rng t) (tB_rng t)
theorem pk_rng {t : Int} (h : 0 ≤ t ∧ t < 500000) : 0 ≤ pk t ∧ pk t < 5000000 := by
  have a := tR_rng t
  have b := tB_rng t
  have c : 0 ≤ tW t ∧ tW t ≤ 495 := by unfold tW; omega
  unfold pk
  omega
theorem pk_of {a r b : Int} (ha : 0 ≤ a) (hr : 0 ≤ r ∧ r ≤ 100) (hb : 0 ≤ b ∧ b ≤ 9) : pk (tOf a r b) = a * 10000 + r * 10 + b := by
  obtain ⟨h1, h2, h3⟩ := tOf_parts ha hr hb
  unfold pk
  rw [h1, h2, h3]
theorem pk_hurt {t : Int} (h : 0 ≤ t) (hb : tB t < 9) : pk (sHurtT t) = pk t + 1 := by
  have a := tR_rng t
  have b := tB_rng t
  have c : 0 ≤ tW t := by unfold tW; omega
  unfold sHurtT
  rw [pk_of c a (by omega)]
  unfold pk
  omega
theorem jU_id (g : Int → Int) (i : Int) : jU g i (g i + 0) = g := by
  funext j
  unfold jU
  split
  · rename_i h; rw [h]; omega
  · rfl
def kCup (lo : Int) (x : Nat → Int → Int) (c : Int → Int) : Prop := ∀ p, 0 ≤ p → p < 12 → c (4 * p) = x 2 p ∧ (1 ≤ x 2 p → c (4 * p + 1) = pk (x 4 (2 * p))) ∧ (2 ≤ x 2 p → c (4 * p + 2) = pk (x 4 (2 * p + 1))) ∧ (lo ≤ p → 1 ≤ x 2 p → c (4 * p + 3) = x 3 p ∧ 0 ≤ x 3 p)
def kBox (x : Nat → Int → Int) (b n e : Int → Int) : Prop := (∀ l, 0 ≤ l → l < 4 → n l = x 5 l ∧ x 5 l ≤ 15 ∧ ∀ j, 0 ≤ j → j < x 5 l → b (15 * l + j) = pk (x 6 (l * 20 + j))) ∧ n 4 = x 5 4 ∧ ∀ j, 0 ≤ j → j < x 5 4 → e j = pk (x 6 (4 * 20 + j))
def kSet (x : Nat → Int → Int) (n : Int → Int) : Prop := n 5 = x 7 0 ∧ n 6 = x 7 1 ∧ n 7 = x 7 2 ∧ x 7 2 ≤ 15
def kWat (x : Nat → Int → Int) (n : Int → Int) : Prop := (0 ≤ n 8 ∧ n 8 ≤ 15) ∧ x 8 0 = n 8 % 2 ∧ x 8 1 = n 8 / 2 % 2 ∧ x 8 2 = n 8 / 4 % 2 ∧ x 8 3 = n 8 / 8 % 2
def kRul (x : Nat → Int → Int) (n u : Int → Int) : Prop := n 9 = x 9 0 ∧ ∀ i, 0 ≤ i → i < x 9 0 → u (4 * i) = tW (x 0 i) ∧ u (4 * i + 1) = tR (x 0 i) ∧ u (4 * i + 2) = tB (x 0 i) ∧ u (4 * i + 3) = x 1 i
def kCnt (x : Nat → Int → Int) (n : Int → Int) : Prop := n 10 = x 9 1 ∧ n 11 = x 9 2 ∧ n 12 = x 9 3 ∧ n 13 = x 9 4 ∧ n 14 = x 9 5 ∧ n 15 = x 9 6
def kLow (x : Nat → Int → Int) (n u : Int → Int) : Prop := kSet x n ∧ kWat x n ∧ kRul x n u
def KRel (lo : Int) (x : Nat → Int → Int) (c b n u e : Int → Int) : Prop := kCup lo x c ∧ kBox x b n e ∧ kLow x n u ∧ kCnt x n
theorem kWat_at {x : Nat → Int → Int} {n : Int → Int} (h : kWat x n) {l : Int} (hl : 0 ≤ l ∧ l < 4) : x 8 l = n 8 / 2 ^ l.toNat % 2 := by
  obtain ⟨-, h0, h1, h2, h3⟩ := h
  rcases (show l = 0 ∨ l = 1 ∨ l = 2 ∨ l = 3 by omega) with rfl | rfl | rfl | rfl
  · rw [h0]; show _ = n 8 / 1 % 2; omega
  · exact h1
  · exact h2
  · exact h3
theorem kCup_kept {lo : Int} {x x' : Nat → Int → Int} {c : Int → Int} (h : kCup lo x c) (e2 : x' 2 = x 2) (e3 : x' 3 = x 3) (e4 : x' 4 = x 4) : kCup lo x' c := by
  unfold kCup
  rw [e2, e3, e4]
  exact h
theorem kBox_kept {x x' : Nat → Int → Int} {b n n' e : Int → Int} (h : kBox x b n e) (e5 : x' 5 = x 5) (e6 : x' 6 = x 6) (en : ∀ k, k < 5 → n' k = n k) : kBox x' b n' e := by
  obtain ⟨h1, h2, h3⟩ := h
  refine ⟨fun l h0 hl => ?_, ?_, ?_⟩
  · rw [e5, e6, en l (by omega)]; exact h1 l h0 hl
  · rw [e5, en 4 (by omega)]; exact h2
  · rw [e5, e6]; exact h3
theorem kLow_kept {x x' : Nat → Int → Int} {n n' u : Int → Int} (h : kLow x n u) (e7 : x' 7 = x 7) (e8 : x' 8 = x 8) (e0 : x' 0 = x 0) (e1 : x' 1 = x 1) (e9 : x' 9 0 = x 9 0) (en : ∀ k, 5 ≤ k → k < 10 → n' k = n k) : kLow x' n' u := by
  obtain ⟨⟨a1, a2, a3, a4⟩, ⟨w0, w1, w2, w3, w4⟩, r1, r2⟩ := h
  have n5 := en 5 (by omega) (by omega)
  have n6 := en 6 (by omega) (by omega)
  have n7 := en 7 (by omega) (by omega)
  have n8 := en 8 (by omega) (by omega)
  have n9 := en 9 (by omega) (by omega)
  refine ⟨⟨?_, ?_, ?_, ?_⟩, ⟨?_, ?_, ?_, ?_, ?_⟩, ?_, ?_⟩
  · rw [n5, e7]; exact a1
  · rw [n6, e7]; exact a2
  · rw [n7, e7]; exact a3
  · rw [e7]; exact a4
  · rw [n8]; exact w0
  · rw [n8, e8]; exact w1
  · rw [n8, e8]; exact w2
  · rw [n8, e8]; exact w3
  · rw [n8, e8]; exact w4
  · rw [n9, e9]; exact r1
  · rw [e9, e0, e1]; exact r2
section
variable {lo : Int} {x : Nat → Int → Int} {c b n u e : Int → Int}
/-- a counter goes up on both sides -/
theorem K_cnt (h : KRel lo x c b n u e) {i z : Int} (hi : 1 ≤ i ∧ i ≤ 6) : KRel lo (jS x 9 (jU (x 9) i (x 9 i + z))) c b (jU n (9 + i) (n (9 + i) + z)) u e := by
  obtain ⟨h1, h2, h3, c1, c2, c3, c4, c5, c6⟩ := h
  have en : ∀ k, k ≠ 9 + i → jU n (9 + i) (n (9 + i) + z) k = n k := fun k hk => jU_ne hk
  have e9 : jS x 9 (jU (x 9) i (x 9 i + z)) 9 = jU (x 9) i (x 9 i + z) := rfl
  refine ⟨kCup_kept h1 rfl rfl rfl, kBox_kept h2 rfl rfl (fun k hk => en k (by omega)), kLow_kept h3 rfl rfl rfl rfl (by rw [e9, jU_ne (by omega)]) (fun k h0 h1 => en k (by omega)), ?_⟩
  unfold kCnt
  rw [e9]
  have key : ∀ j k : Int, k = 9 + j → n k = x 9 j → jU n (9 + i) (n (9 + i) + z) k = jU (x 9) i (x 9 i + z) j := by
    intro j k hk hn
    subst hk
    by_cases q : j = i
    · subst q; rw [jU_at, jU_at, hn]
    · rw [jU_ne (by omega), jU_ne q]; exact hn
  exact ⟨key 1 10 rfl c1, key 2 11 rfl c2, key 3 12 rfl c3, key 4 13 rfl c4, key 5 14 rfl c5, key 6 15 rfl c6⟩
theorem K_cup0 (h : KRel lo x c b n u e) : c 0 = x 2 0 ∧ (1 ≤ x 2 0 → c 1 = pk (x 4 0)) ∧ (2 ≤ x 2 0 → c 2 = pk (x 4 1)) := by
  obtain ⟨a, b, c, -⟩ := h.1 0 (by omega) (by omega)
  exact ⟨a, b, c⟩
theorem K_grade (hx : sOK x) (h : KRel 1 x c b n u e) (h0 : ¬ x 2 0 = 0) : KRel 0 (sGrade x) (jU c 3 (sGtc x)) b (jU n 13 (n 13 + (if x 2 0 = 2 then 1 else 0))) u e := by
  have r2 : ∀ i, 0 ≤ x 2 i ∧ x 2 i ≤ 2 := hx 2
  have e1 : sGrade x = jS (jS x 3 (jU (x 3) 0 (sGtc x))) 9 (if x 2 0 = 2 then jU (x 9) 4 (x 9 4 + 1) else x 9) := if_neg h0
  have e9 : (if x 2 0 = 2 then jU (x 9) 4 (x 9 4 + 1) else x 9) = jU (x 9) 4 (x 9 4 + (if x 2 0 = 2 then 1 else 0)) := by
    split
    · rfl
    · exact (jU_id _ _).symm
  have g := K_cnt (i := 4) (z := if x 2 0 = 2 then 1 else 0) h (by omega)
  obtain ⟨h1, h2, h3, h4⟩ := g
  rw [e1, e9]
  refine ⟨fun p p0 p1 => ?_, kBox_kept h2 rfl rfl (fun _ _ => rfl), kLow_kept h3 rfl rfl rfl rfl rfl (fun _ _ _ => rfl), h4⟩
  obtain ⟨a1, a2, a3, a4⟩ := h.1 p p0 p1
  have gr := sGtc_rng hx
  show jU c 3 (sGtc x) (4 * p) = x 2 p ∧ (1 ≤ x 2 p → jU c 3 (sGtc x) (4 * p + 1) = pk (x 4 (2 * p))) ∧ (2 ≤ x 2 p → jU c 3 (sGtc x) (4 * p + 2) = pk (x 4 (2 * p + 1))) ∧ (0 ≤ p → 1 ≤ x 2 p → jU c 3 (sGtc x) (4 * p + 3) = jU (x 3) 0 (sGtc x) p ∧ 0 ≤ jU (x 3) 0 (sGtc x) p)
  rw [jU_ne (by omega), jU_ne (by omega), jU_ne (by omega)]
  refine ⟨a1, a2, a3, fun _ q => ?_⟩
  by_cases w : p = 0
  · subst w
    rw [show (4 * 0 + 3 : Int) = 3 from rfl, jU_at, jU_at]
    exact ⟨rfl, gr.1⟩
  · rw [jU_ne (by omega), jU_ne w]
    exact a4 (by omega) q
theorem K_lo0 (h : KRel 1 x c b n u e) (h0 : x 2 0 = 0) : KRel 0 x c b n u e := by
  obtain ⟨h1, h2⟩ := h
  refine ⟨fun p p0 p1 => ?_, h2⟩
  obtain ⟨a1, a2, a3, a4⟩ := h1 p p0 p1
  refine ⟨a1, a2, a3, fun _ q => ?_⟩
  by_cases w : p = 0
  · subst w; omega
  · exact a4 (by omega) q
theorem K_put4 {t : Int} (h5 : 0 ≤ x 5 4) (h : KRel lo x c b n u e) : KRel lo (sPut x 4 t) c b (jU n 4 (n 4 + 1)) u (jU e (n 4) (pk t)) := by
  obtain ⟨h1, ⟨b1, b2, b3⟩, h3, h4⟩ := h
  refine ⟨kCup_kept h1 rfl rfl rfl, ⟨fun l h0 hl => ?_, ?_, fun j j0 j1 => ?_⟩, kLow_kept h3 rfl rfl rfl rfl rfl (fun k _ _ => jU_ne (by omega)), ?_⟩
  · obtain ⟨q1, q2, q3⟩ := b1 l h0 hl
    show jU n 4 (n 4 + 1) l = jU (x 5) 4 (x 5 4 + 1) l ∧ jU (x 5) 4 (x 5 4 + 1) l ≤ 15 ∧ ∀ j, 0 ≤ j → j < jU (x 5) 4 (x 5 4 + 1) l → b (15 * l + j) = pk (jU (x 6) (4 * 20 + x 5 4) t (l * 20 + j))
    rw [jU_ne (by omega), jU_ne (by omega)]
    refine ⟨q1, q2, fun j j0 j1 => ?_⟩
    rw [jU_ne (by omega)]
    exact q3 j j0 j1
  · show jU n 4 (n 4 + 1) 4 = jU (x 5) 4 (x 5 4 + 1) 4
    rw [jU_at, jU_at, b2]
  · have j1' : j < jU (x 5) 4 (x 5 4 + 1) 4 := j1
    rw [jU_at] at j1'
    show jU e (n 4) (pk t) j = pk (jU (x 6) (4 * 20 + x 5 4) t (4 * 20 + j))
    by_cases q : j = x 5 4
    · rw [b2, q, jU_at, jU_at]
    · rw [jU_ne (by omega), jU_ne (by omega)]
      exact b3 j j0 (by omega)
  · obtain ⟨c1, c2, c3, c4, c5, c6⟩ := h4
    refine ⟨?_, ?_, ?_, ?_, ?_, ?_⟩
    · rw [jU_ne (by omega)]; exact c1
    · rw [jU_ne (by omega)]; exact c2
    · rw [jU_ne (by omega)]; exact c3
    · rw [jU_ne (by omega)]; exact c4
    · rw [jU_ne (by omega)]; exact c5
    · rw [jU_ne (by omega)]; exact c6
theorem K_move (h : KRel 0 x c b n u e) : KRel 1 (sMove x) (jU (sh1 c 4 3 47) 0 0) b n u e := by
  obtain ⟨h1, h2, h3, h4⟩ := h
  refine ⟨fun p p0 p1 => ?_, kBox_kept h2 rfl rfl (fun _ _ => rfl), kLow_kept h3 rfl rfl rfl rfl rfl (fun _ _ _ => rfl), h4⟩
  show jU (sh1 c 4 3 47) 0 0 (4 * p) = bMv (x 2) 0 p ∧ (1 ≤ bMv (x 2) 0 p → jU (sh1 c 4 3 47) 0 0 (4 * p + 1) = pk (bMv2 (x 4) (2 * p))) ∧ (2 ≤ bMv (x 2) 0 p → jU (sh1 c 4 3 47) 0 0 (4 * p + 2) = pk (bMv2 (x 4) (2 * p + 1))) ∧ (1 ≤ p → 1 ≤ bMv (x 2) 0 p → jU (sh1 c 4 3 47) 0 0 (4 * p + 3) = bMv (x 3) (-1) p ∧ 0 ≤ bMv (x 3) (-1) p)
  by_cases q : p = 0
  · subst q
    have e0 : bMv (x 2) 0 0 = 0 := rfl
    rw [e0]
    exact ⟨jU_at _ _ _, fun z => absurd z (by omega), fun z => absurd z (by omega), fun z => absurd z (by omega)⟩
  · obtain ⟨a1, a2, a3, a4⟩ := h1 (p - 1) (by omega) (by omega)
    have cs : ∀ i, 0 ≤ i ∧ i < 4 → jU (sh1 c 4 3 47) 0 0 (4 * p + i) = c (4 * (p - 1) + i) := by
      intro i hi
      rw [jU_ne (by omega)]
      unfold sh1
      rw [if_pos (by omega)]
      congr 1
      omega
    have e2 : bMv (x 2) 0 p = x 2 (p - 1) := by unfold bMv; rw [if_neg q, if_pos (by omega)]
    have e3 : bMv (x 3) (-1) p = x 3 (p - 1) := by unfold bMv; rw [if_neg q, if_pos (by omega)]
    have e4 : bMv2 (x 4) (2 * p) = x 4 (2 * (p - 1)) := by unfold bMv2; rw [if_pos (by omega)]; congr 1; omega
    have e5 : bMv2 (x 4) (2 * p + 1) = x 4 (2 * (p - 1) + 1) := by unfold bMv2; rw [if_pos (by omega)]; congr 1; omega
    have c0 := cs 0 (by omega)
    rw [Int.add_zero, Int.add_zero] at c0
    rw [c0, cs 1 (by omega), cs 2 (by omega), cs 3 (by omega), e2, e3, e4, e5]
    exact ⟨a1, a2, a3, fun _ => a4 (by omega)⟩
/-! the drops -/
theorem K_dr0 {l : Int} (hg : sGr x) (h : KRel 1 x c b n u e) (hl : 0 ≤ l ∧ l < 4) (hq : ¬ (0 < c (4 * (2 + 2 * l)) ∧ c (4 * (2 + 2 * l) + 3) = l)) : sDrX x l = x ∧ sDrN x l = 0 := by
  obtain ⟨a1, a2, a3, a4⟩ := h.1 (2 + 2 * l) (by omega) (by omega)
  have ne : ¬ x 3 (2 + 2 * l) = l := by
    intro w
    have p := hg.2 (2 + 2 * l) (by omega)
    have := a4 (by omega) p
    exact hq ⟨by omega, by omega⟩
  exact ⟨if_neg ne, if_neg ne⟩
theorem K_dr3 {l : Int} (h : KRel 1 x c b n u e) (hl : 0 ≤ l ∧ l < 4) (h1 : 0 < c (4 * (2 + 2 * l))) (h2 : c (4 * (2 + 2 * l) + 3) = l) : x 3 (2 + 2 * l) = l ∧ 1 ≤ x 2 (2 + 2 * l) ∧ c (4 * (2 + 2 * l) + 1) = pk (x 4 (2 * (2 + 2 * l))) := by
  obtain ⟨a1, a2, a3, a4⟩ := h.1 (2 + 2 * l) (by omega) (by omega)
  have := a4 (by omega) (by omega)
  exact ⟨by omega, by omega, a2 (by omega)⟩
theorem K_drF {l : Int} (h : KRel 1 x c b n u e) (hl : 0 ≤ l ∧ l < 4) : KRel 1 (jS (jS x 3 (jU (x 3) (2 + 2 * l) 4)) 9 (jU (x 9) 3 (x 9 3 + 1))) (jU c (4 * (2 + 2 * l) + 3) 4) b (jU n 12 (n 12 + 1)) u e := by
  have g := K_cnt (i := 3) (z := 1) h (by omega)
  obtain ⟨h1, h2, h3, h4⟩ := g
  refine ⟨fun p p0 p1 => ?_, kBox_kept h2 rfl rfl (fun _ _ => rfl), kLow_kept h3 rfl rfl rfl rfl rfl (fun _ _ _ => rfl), h4⟩
  obtain ⟨a1, a2, a3, a4⟩ := h.1 p p0 p1
  show jU c (4 * (2 + 2 * l) + 3) 4 (4 * p) = x 2 p ∧ (1 ≤ x 2 p → jU c (4 * (2 + 2 * l) + 3) 4 (4 * p + 1) = pk (x 4 (2 * p))) ∧ (2 ≤ x 2 p → jU c (4 * (2 + 2 * l) + 3) 4 (4 * p + 2) = pk (x 4 (2 * p + 1))) ∧ (1 ≤ p → 1 ≤ x 2 p → jU c (4 * (2 + 2 * l) + 3) 4 (4 * p + 3) = jU (x 3) (2 + 2 * l) 4 p ∧ 0 ≤ jU (x 3) (2 + 2 * l) 4 p)
  rw [jU_ne (by omega), jU_ne (by omega), jU_ne (by omega)]
  refine ⟨a1, a2, a3, fun z q => ?_⟩
  by_cases w : p = 2 + 2 * l
  · subst w
    rw [jU_at, jU_at]
    omega
  · rw [jU_ne (by omega), jU_ne w]
    exact a4 z q
theorem K_drD {l t q : Int} (hx : sOK x) (h : KRel 1 x c b n u e) (hl : 0 ≤ l ∧ l < 4) (hf : x 5 l < x 7 2) (hq : q = pk t) : KRel 1 (sClear (sPut x l t) (2 + 2 * l)) (jU c (4 * (2 + 2 * l)) 0) (jU b (15 * l + n l) q) (jU n l (n l + 1)) u e := by
  have r5 : ∀ i, 0 ≤ x 5 i ∧ x 5 i ≤ 512 ∧ (i < 4 → x 5 i ≤ 20) := hx 5
  obtain ⟨h1, ⟨b1, b2, b3⟩, h3, c1, c2, c3, c4, c5, c6⟩ := h
  have s4 := h3.1.2.2.2
  obtain ⟨l1, l2, l3⟩ := b1 l hl.1 hl.2
  have r5l := r5 l
  subst hq
  refine ⟨fun p p0 p1 => ?_, ⟨fun m m0 m1 => ?_, ?_, fun j j0 j1 => ?_⟩, kLow_kept h3 rfl rfl rfl rfl rfl (fun k _ _ => jU_ne (by omega)), ?_⟩
  · obtain ⟨a1, a2, a3, a4⟩ := h1 p p0 p1
    show jU c (4 * (2 + 2 * l)) 0 (4 * p) = jU (x 2) (2 + 2 * l) 0 p ∧ (1 ≤ jU (x 2) (2 + 2 * l) 0 p → jU c (4 * (2 + 2 * l)) 0 (4 * p + 1) = pk (x 4 (2 * p))) ∧ (2 ≤ jU (x 2) (2 + 2 * l) 0 p → jU c (4 * (2 + 2 * l)) 0 (4 * p + 2) = pk (x 4 (2 * p + 1))) ∧ (1 ≤ p → 1 ≤ jU (x 2) (2 + 2 * l) 0 p → jU c (4 * (2 + 2 * l)) 0 (4 * p + 3) = jU (x 3) (2 + 2 * l) (-1) p ∧ 0 ≤ jU (x 3) (2 + 2 * l) (-1) p)
    by_cases w : p = 2 + 2 * l
    · subst w
      rw [jU_at, jU_at]
      exact ⟨rfl, fun z => absurd z (by omega), fun z => absurd z (by omega), fun _ z => absurd z (by omega)⟩
    · rw [jU_ne (by omega), jU_ne w, jU_ne (by omega), jU_ne (by omega), jU_ne (by omega), jU_ne w]
      exact ⟨a1, a2, a3, a4⟩
  · obtain ⟨q1, q2, q3⟩ := b1 m m0 m1
    have r5m := r5 m
    show jU n l (n l + 1) m = jU (x 5) l (x 5 l + 1) m ∧ jU (x 5) l (x 5 l + 1) m ≤ 15 ∧ ∀ j, 0 ≤ j → j < jU (x 5) l (x 5 l + 1) m → jU b (15 * l + n l) (pk t) (15 * m + j) = pk (jU (x 6) (l * 20 + x 5 l) t (m * 20 + j))
    by_cases w : m = l
    · subst w
      rw [jU_at, jU_at]
      refine ⟨by omega, by omega, fun j j0 j1 => ?_⟩
      by_cases v : j = x 5 m
      · subst v
        rw [l1, jU_at, jU_at]
      · rw [jU_ne (by omega), jU_ne (by omega)]
        exact q3 j j0 (by omega)
    · rw [jU_ne w, jU_ne w]
      refine ⟨q1, q2, fun j j0 j1 => ?_⟩
      rw [jU_ne (by omega), jU_ne (by omega)]
      exact q3 j j0 j1
  · show jU n l (n l + 1) 4 = jU (x 5) l (x 5 l + 1) 4
    rw [jU_ne (by omega), jU_ne (by omega)]
    exact b2
  · have j1' : j < jU (x 5) l (x 5 l + 1) 4 := j1
    rw [jU_ne (by omega)] at j1'
    show e j = pk (jU (x 6) (l * 20 + x 5 l) t (4 * 20 + j))
    rw [jU_ne (by omega)]
    exact b3 j j0 j1'
  · refine ⟨?_, ?_, ?_, ?_, ?_, ?_⟩
    · rw [jU_ne (by omega)]; exact c1
    · rw [jU_ne (by omega)]; exact c2
    · rw [jU_ne (by omega)]; exact c3
    · rw [jU_ne (by omega)]; exact c4
    · rw [jU_ne (by omega)]; exact c5
    · rw [jU_ne (by omega)]; exact c6
/-! the acts -/
theorem K_lay {t q : Int} (hx : sOK x) (h : KRel 1 x c b n u e) (h2 : x 2 0 < 2) (hq : q = pk t) : KRel 1 (sLay x t) (jU (jU c (1 + c 0) q) 0 (jU c (1 + c 0) q 0 + 1)) b (jU n 11 (n 11 + 1)) u e := by
  have r2 : ∀ i, 0 ≤ x 2 i ∧ x 2 i ≤ 2 := hx 2
  have r20 := r2 0
  have g := K_cnt (i := 2) (z := 1) h (by omega)
  obtain ⟨h1, h3, h4, h5⟩ := g
  refine ⟨fun p p0 p1 => ?_, kBox_kept h3 rfl rfl (fun _ _ => rfl), kLow_kept h4 rfl rfl rfl rfl rfl (fun _ _ _ => rfl), h5⟩
  obtain ⟨a1, a2, a3, a4⟩ := h.1 p p0 p1
  obtain ⟨k1, k2, k3⟩ := K_cup0 h
  subst hq
  show jU (jU c (1 + c 0) (pk t)) 0 (jU c (1 + c 0) (pk t) 0 + 1) (4 * p) = jU (x 2) 0 (x 2 0 + 1) p ∧ (1 ≤ jU (x 2) 0 (x 2 0 + 1) p → jU (jU c (1 + c 0) (pk t)) 0 (jU c (1 + c 0) (pk t) 0 + 1) (4 * p + 1) = pk (jU (x 4) (x 2 0) t (2 * p))) ∧ (2 ≤ jU (x 2) 0 (x 2 0 + 1) p → jU (jU c (1 + c 0) (pk t)) 0 (jU c (1 + c 0) (pk t) 0 + 1) (4 * p + 2) = pk (jU (x 4) (x 2 0) t (2 * p + 1))) ∧ (1 ≤ p → 1 ≤ jU (x 2) 0 (x 2 0 + 1) p → jU (jU c (1 + c 0) (pk t)) 0 (jU c (1 + c 0) (pk t) 0 + 1) (4 * p + 3) = x 3 p ∧ 0 ≤ x 3 p)
  rw [jU_ne (g := c) (show (0 : Int) ≠ 1 + c 0 by omega)]
  by_cases w : p = 0
  · subst w
    rw [show (4 * 0 : Int) = 0 from rfl, show (2 * 0 : Int) = 0 from rfl, jU_at, jU_at, jU_ne (show (0 + 1 : Int) ≠ 0 by omega), jU_ne (show (0 + 2 : Int) ≠ 0 by omega)]
    refine ⟨by omega, fun _ => ?_, fun z => ?_, fun z => absurd z (by omega)⟩
    · by_cases v : x 2 0 = 0
      · rw [k1, v, show (1 + 0 : Int) = 1 from rfl, show (0 + 1 : Int) = 1 from rfl, jU_at, jU_at]
      · rw [jU_ne (by omega), jU_ne (by omega)]
        exact a2 (by omega)
    · have v : x 2 0 = 1 := by omega
      rw [k1, v, show (1 + 1 : Int) = 0 + 2 from rfl, jU_at, show (0 + 1 : Int) = 1 from rfl, jU_at]
  · rw [jU_ne (show 4 * p ≠ 0 by omega), jU_ne (show 4 * p + 1 ≠ 0 by omega), jU_ne (show 4 * p + 2 ≠ 0 by omega), jU_ne (show 4 * p + 3 ≠ 0 by omega), jU_ne (by omega), jU_ne w, jU_ne (by omega), jU_ne (by omega), jU_ne (by omega), jU_ne (by omega), jU_ne (by omega)]
    exact ⟨a1, a2, a3, a4⟩
theorem K_rules {x' : Nat → Int → Int} {n' u' : Int → Int} (h : KRel lo x c b n u e) (e7 : x' 7 = x 7) (e8 : x' 8 = x 8) (e2 : x' 2 = x 2) (e3 : x' 3 = x 3) (e4 : x' 4 = x 4) (e5 : x' 5 = x 5) (e6 : x' 6 = x 6) (e9 : ∀ i, 1 ≤ i → x' 9 i = x 9 i) (en : ∀ k, k ≠ 9 → n' k = n k) (rr : kRul x' n' u') : KRel lo x' c b n' u' e := by
  obtain ⟨h1, h2, ⟨⟨a1, a2, a3, a4⟩, ⟨w0, w1, w2, w3, w4⟩, -⟩, c1, c2, c3, c4, c5, c6⟩ := h
  have n5 := en 5 (by omega)
  have n6 := en 6 (by omega)
  have n7 := en 7 (by omega)
  have n8 := en 8 (by omega)
  refine ⟨kCup_kept h1 e2 e3 e4, kBox_kept h2 e5 e6 (fun k hk => en k (by omega)), ⟨⟨?_, ?_, ?_, ?_⟩, ⟨?_, ?_, ?_, ?_, ?_⟩, rr⟩, ?_, ?_, ?_, ?_, ?_, ?_⟩
  · rw [n5, e7]; exact a1
  · rw [n6, e7]; exact a2
  · rw [n7, e7]; exact a3
  · rw [e7]; exact a4
  · rw [n8]; exact w0
  · rw [n8, e8]; exact w1
  · rw [n8, e8]; exact w2
  · rw [n8, e8]; exact w3
  · rw [n8, e8]; exact w4
  · rw [e9 _ (by omega), en _ (by omega)]; exact c1
  · rw [e9 _ (by omega), en _ (by omega)]; exact c2
  · rw [e9 _ (by omega), en _ (by omega)]; exact c3
  · rw [e9 _ (by omega), en _ (by omega)]; exact c4
  · rw [e9 _ (by omega), en _ (by omega)]; exact c5
  · rw [e9 _ (by omega), en _ (by omega)]; exact c6
/-- four numbers laid at 4 p into rows that were moved up -/
def kIns (u : Int → Int) (p m a r d l : Int) : Int → Int := jU (jU (jU (jU (sh1 u 4 (4 * p + 3) (4 * m + 3)) (4 * p) a) (4 * p + 1) r) (4 * p + 2) d) (4 * p + 3) l
theorem kIns_at (u : Int → Int) (p m a r d l : Int) {i : Int} (hi : i ≤ m) : kIns u p m a r d l (4 * i) = (if i = p then a else if p < i then u (4 * (i - 1)) else u (4 * i)) ∧ kIns u p m a r d l (4 * i + 1) = (if i = p then r else if p < i then u (4 * (i - 1) + 1) else u (4 * i + 1)) ∧ kIns u p m a r d l (4 * i + 2) = (if i = p then d else if p < i then u (4 * (i - 1) + 2) else u (4 * i + 2)) ∧ kIns u p m a r d l (4 * i + 3) = (if i = p then l else if p < i then u (4 * (i - 1) + 3) else u (4 * i + 3)) := by
  unfold kIns
  by_cases q : i = p
  · subst q
    rw [if_pos rfl, if_pos rfl, if_pos rfl, if_pos rfl]
    refine ⟨?_, ?_, ?_, ?_⟩
    · rw [jU_ne (by omega), jU_ne (by omega), jU_ne (by omega), jU_at]
    · rw [jU_ne (by omega), jU_ne (by omega), jU_at]
    · rw [jU_ne (by omega), jU_at]
    · rw [jU_at]
  · rw [if_neg q, if_neg q, if_neg q, if_neg q]
    have key : ∀ j, 0 ≤ j ∧ j < 4 → jU (jU (jU (jU (sh1 u 4 (4 * p + 3) (4 * m + 3)) (4 * p) a) (4 * p + 1) r) (4 * p + 2) d) (4 * p + 3) l (4 * i + j) = if p < i then u (4 * (i - 1) + j) else u (4 * i + j) := by
      intro j hj
      rw [jU_ne (by omega), jU_ne (by omega), jU_ne (by omega), jU_ne (by omega)]
      unfold sh1
      by_cases w : p < i
      · rw [if_pos (by omega), if_pos w]
        congr 1
        omega
      · rw [if_neg (by omega), if_neg w]
    have k0 := key 0 (by omega)
    rw [Int.add_zero, Int.add_zero] at k0
    exact ⟨k0, key 1 (by omega), key 2 (by omega), key 3 (by omega)⟩
theorem K_rule {p a r d l : Int} (hx : sOK x) (h : KRel 1 x c b n u e) (hp : 0 ≤ p ∧ p ≤ x 9 0) (h8 : x 9 0 < 8) (ha : 50 ≤ a ∧ a ≤ 300) (hr : 0 ≤ r ∧ r ≤ 100) (hb : 0 ≤ d ∧ d ≤ 9) : KRel 1 (sRule x p (tOf a r d) l) c b (jU n 9 (n 9 + 1)) (kIns u p (n 9) a r d l) e := by
  obtain ⟨t1, t2, t3⟩ := tOf_parts (a := a) (r := r) (b := d) (by omega) hr hb
  have e9 : sRule x p (tOf a r d) l 9 = jU (x 9) 0 (x 9 0 + 1) := rfl
  have e0 : sRule x p (tOf a r d) l 0 = rIns (x 0) p (x 9 0) (tOf a r d) := rfl
  have e1 : sRule x p (tOf a r d) l 1 = rIns (x 1) p (x 9 0) l := rfl
  have s9 : n 9 = x 9 0 := h.2.2.1.2.2.1
  have su := h.2.2.1.2.2.2
  refine K_rules h rfl rfl rfl rfl rfl rfl rfl (fun i hi => by rw [e9, jU_ne (by omega)]) (fun k hk => jU_ne hk) ⟨by rw [e9, jU_at, jU_at, s9], fun i h0 h1 => ?_⟩
  rw [e9, jU_at] at h1
  obtain ⟨k0, k1, k2, k3⟩ := kIns_at u p (n 9) a r d l (i := i) (by omega)
  rw [e0, e1, k0, k1, k2, k3]
  by_cases q : i = p
  · have a0 : rIns (x 0) p (x 9 0) (tOf a r d) i = tOf a r d := if_pos q
    have a1 : rIns (x 1) p (x 9 0) l i = l := if_pos q
    rw [a0, a1, if_pos q, if_pos q, if_pos q, if_pos q, t1, t2, t3]
    exact ⟨rfl, rfl, rfl, rfl⟩
  · rw [if_neg q, if_neg q, if_neg q, if_neg q]
    by_cases q2 : p < i
    · have a0 : rIns (x 0) p (x 9 0) (tOf a r d) i = x 0 (i - 1) := by unfold rIns; rw [if_neg q, if_pos ⟨q2, by omega⟩]
      have a1 : rIns (x 1) p (x 9 0) l i = x 1 (i - 1) := by unfold rIns; rw [if_neg q, if_pos ⟨q2, by omega⟩]
      rw [a0, a1, if_pos q2, if_pos q2, if_pos q2, if_pos q2]
      exact su (i - 1) (by omega) (by omega)
    · have a0 : rIns (x 0) p (x 9 0) (tOf a r d) i = x 0 i := by unfold rIns; rw [if_neg q, if_neg (by omega)]
      have a1 : rIns (x 1) p (x 9 0) l i = x 1 i := by unfold rIns; rw [if_neg q, if_neg (by omega)]
      rw [a0, a1, if_neg q2, if_neg q2, if_neg q2, if_neg q2]
      exact su i h0 (by omega)
/-- rows moved down by four, from a to i -/
def sh4 (u : Int → Int) (a i : Int) : Int → Int := fun j => if a ≤ j ∧ j < i then u (j + 4) else u j
theorem sh4_start (u : Int → Int) (a : Int) : sh4 u a a = u := by
  funext j
  unfold sh4
  rw [if_neg (by omega)]
theorem sh4_step {u : Int → Int} {a i : Int} (h : a ≤ i) : jU (sh4 u a i) i (sh4 u a i (i + 4)) = sh4 u a (i + 1) := by
  funext j
  unfold jU sh4
  by_cases q : j = i
  · subst q
    rw [if_pos rfl, if_neg (by omega), if_pos (by omega)]
  · rw [if_neg q]
    by_cases w : a ≤ j ∧ j < i
    · rw [if_pos w, if_pos (by omega)]
    · rw [if_neg w, if_neg (by omega)]
theorem K_out {r : Int} (hx : sOK x) (h : KRel 1 x c b n u e) (hr : 0 ≤ r ∧ r < x 9 0) : KRel 1 (sOut x r) c b (jU n 9 (n 9 - 1)) (sh4 u (4 * r) (4 * (n 9 - 1))) e ∧ sOK (sOut x r) := by
  have r9 : 0 ≤ x 9 0 ∧ x 9 0 ≤ 8 := hx 9
  have r0 : ∀ i, 0 ≤ x 0 i ∧ x 0 i < 404000 := hx 0
  have r1 : ∀ i, 0 ≤ x 1 i ∧ x 1 i ≤ 3 := hx 1
  have s9 : n 9 = x 9 0 := h.2.2.1.2.2.1
  have su := h.2.2.1.2.2.2
  have e9 : sOut x r 9 = jU (x 9) 0 (x 9 0 - 1) := rfl
  have e0 : sOut x r 0 = rOut (x 0) r (x 9 0) := rfl
  have e1 : sOut x r 1 = rOut (x 1) r (x 9 0) := rfl
  refine ⟨K_rules h rfl rfl rfl rfl rfl rfl rfl (fun i hi => by rw [e9, jU_ne (by omega)]) (fun k hk => jU_ne hk) ⟨by rw [e9, jU_at, jU_at, s9], fun i h0 h1 => ?_⟩, ?_⟩
  · rw [e9, jU_at] at h1
    rw [e0, e1]
    unfold sh4
    by_cases q : r ≤ i
    · have a0 : rOut (x 0) r (x 9 0) i = x 0 (i + 1) := if_pos ⟨q, by omega⟩
      have a1 : rOut (x 1) r (x 9 0) i = x 1 (i + 1) := if_pos ⟨q, by omega⟩
      rw [a0, a1, if_pos (by omega), if_pos (by omega), if_pos (by omega), if_pos (by omega)]
      have g := su (i + 1) (by omega) (by omega)
      rw [show 4 * i + 4 = 4 * (i + 1) by omega, show 4 * i + 1 + 4 = 4 * (i + 1) + 1 by omega, show 4 * i + 2 + 4 = 4 * (i + 1) + 2 by omega, show 4 * i + 3 + 4 = 4 * (i + 1) + 3 by omega]
      exact g
    · have a0 : rOut (x 0) r (x 9 0) i = x 0 i := if_neg (by omega)
      have a1 : rOut (x 1) r (x 9 0) i = x 1 i := if_neg (by omega)
      rw [a0, a1, if_neg (by omega), if_neg (by omega), if_neg (by omega), if_neg (by omega)]
      exact su i h0 (by omega)
  · unfold sOut
    refine sOK_S (sOK_S (sOK_S hx ?_) ?_) ?_
    · show ∀ i, 0 ≤ rOut (x 0) r (x 9 0) i ∧ rOut (x 0) r (x 9 0) i < 404000
      intro i
      unfold rOut
      split
      · exact r0 _
      · exact r0 _
    · show ∀ i, 0 ≤ rOut (x 1) r (x 9 0) i ∧ rOut (x 1) r (x 9 0) i ≤ 3
      intro i
      unfold rOut
      split
      · exact r1 _
      · exact r1 _
    · show 0 ≤ jU (x 9) 0 (x 9 0 - 1) 0 ∧ jU (x 9) 0 (x 9 0 - 1) 0 ≤ 8
      rw [jU_at]; omega
theorem K_water {l : Int} (h : KRel 1 x c b n u e) (hl : 0 ≤ l ∧ l < 4) : KRel 1 (jS x 8 (jU (x 8) l (1 - x 8 l))) c b (jU n 8 (wXor (n 8) l)) u e := by
  obtain ⟨h1, h2, ⟨h3, h4, h5⟩, c1, c2, c3, c4, c5, c6⟩ := h
  have jx := jXor (n 8) l h4.1 hl
  have wl := kWat_at h4 hl
  have key : ∀ k, 0 ≤ k → k < 4 → jU (x 8) l (1 - x 8 l) k = wXor (n 8) l / 2 ^ k.toNat % 2 := fun k h0 h1 => by
    by_cases q : k = l
    · subst q
      rw [jU_at, jx.1.2.2, wl]
    · rw [jU_ne q, kWat_at h4 ⟨h0, h1⟩, jx.2 k ⟨h0, h1⟩ q]
  have z : ∀ k, k ≠ 8 → jU n 8 (wXor (n 8) l) k = n k := fun k hk => jU_ne hk
  refine ⟨kCup_kept h1 rfl rfl rfl, kBox_kept h2 rfl rfl (fun k hk => z k (by omega)), ⟨h3, ⟨?_, ?_, ?_, ?_, ?_⟩, h5⟩, c1, c2, c3, c4, c5, c6⟩
  · rw [jU_at]; exact jx.1.2.1
  · have k := key 0 (by omega) (by omega)
    rw [jU_at]
    rw [show (2 : Int) ^ (0 : Int).toNat = 1 from rfl] at k
    show jU (x 8) l (1 - x 8 l) 0 = _
    omega
  · rw [jU_at]; exact key 1 (by omega) (by omega)
  · rw [jU_at]; exact key 2 (by omega) (by omega)
  · rw [jU_at]; exact key 3 (by omega) (by omega)
theorem K_empty {l : Int} (hx : sOK x) (h : KRel 1 x c b n u e) (hl : 0 ≤ l ∧ l ≤ 4) : n l = x 5 l ∧ KRel 1 (sEmpty x l) c b (jU (jU n l 0) 15 (jU n l 0 15 + n l)) u e := by
  have r5 : ∀ i, 0 ≤ x 5 i ∧ x 5 i ≤ 512 ∧ (i < 4 → x 5 i ≤ 20) := hx 5
  obtain ⟨h1, ⟨b1, b2, b3⟩, h3, c1, c2, c3, c4, c5, c6⟩ := h
  have nl : n l = x 5 l := by
    by_cases q : l = 4
    · subst q; exact b2
    · exact (b1 l hl.1 (by omega)).1
  rw [jU_ne (show (15 : Int) ≠ l by omega)]
  have z : ∀ k, k ≠ l → k ≠ 15 → jU (jU n l 0) 15 (n 15 + n l) k = n k := fun k k1 k2 => by rw [jU_ne k2, jU_ne k1]
  have zl : jU (jU n l 0) 15 (n 15 + n l) l = 0 := by rw [jU_ne (by omega), jU_at]
  refine ⟨nl, kCup_kept h1 rfl rfl rfl, ⟨fun m m0 m1 => ?_, ?_, fun j j0 j1 => ?_⟩, kLow_kept h3 rfl rfl rfl rfl rfl (fun k k0 k1 => z k (by omega) (by omega)), ?_⟩
  · obtain ⟨q1, q2, q3⟩ := b1 m m0 m1
    show jU (jU n l 0) 15 (n 15 + n l) m = jU (x 5) l 0 m ∧ jU (x 5) l 0 m ≤ 15 ∧ ∀ j, 0 ≤ j → j < jU (x 5) l 0 m → b (15 * m + j) = pk (x 6 (m * 20 + j))
    by_cases w : m = l
    · subst w
      rw [zl, jU_at]
      exact ⟨rfl, by omega, fun j j0 j1 => absurd j1 (by omega)⟩
    · rw [z m w (by omega), jU_ne w]
      exact ⟨q1, q2, q3⟩
  · show jU (jU n l 0) 15 (n 15 + n l) 4 = jU (x 5) l 0 4
    by_cases w : l = 4
    · subst w; rw [zl, jU_at]
    · rw [z 4 (by omega) (by omega), jU_ne (by omega)]; exact b2
  · have j1' : j < jU (x 5) l 0 4 := j1
    by_cases w : l = 4
    · subst w; rw [jU_at] at j1'; omega
    · rw [jU_ne (by omega)] at j1'; exact b3 j j0 j1'
  · have e9 : sEmpty x l 9 = jU (x 9) 6 (x 9 6 + x 5 l) := rfl
    unfold kCnt
    rw [e9]
    refine ⟨?_, ?_, ?_, ?_, ?_, ?_⟩
    · rw [z _ (by omega) (by omega), jU_ne (by omega)]; exact c1
    · rw [z _ (by omega) (by omega), jU_ne (by omega)]; exact c2
    · rw [z _ (by omega) (by omega), jU_ne (by omega)]; exact c3
    · rw [z _ (by omega) (by omega), jU_ne (by omega)]; exact c4
    · rw [z _ (by omega) (by omega), jU_ne (by omega)]; exact c5
    · rw [jU_at, jU_at, c6, nl]
theorem K_set {w a : Int} (h : KRel 1 x c b n u e) (hw : 0 ≤ w ∧ w ≤ 2) (h2 : w = 2 → a ≤ 15) : KRel 1 (jS x 7 (jU (x 7) w a)) c b (jU n (5 + w) a) u e := by
  obtain ⟨h1, h2', ⟨⟨a1, a2, a3, a4⟩, h4, h5⟩, c1, c2, c3, c4, c5, c6⟩ := h
  have z : ∀ k, k ≠ 5 + w → jU n (5 + w) a k = n k := fun k hk => jU_ne hk
  have key : ∀ j, n (5 + j) = x 7 j → jU n (5 + w) a (5 + j) = jU (x 7) w a j := fun j hj => by
    by_cases q : j = w
    · subst q; rw [jU_at, jU_at]
    · rw [jU_ne (by omega), jU_ne q]; exact hj
  obtain ⟨w0, w1, w2, w3, w4⟩ := h4
  obtain ⟨r1, r2⟩ := h5
  have z8 := z 8 (by omega)
  have z9 := z 9 (by omega)
  refine ⟨kCup_kept h1 rfl rfl rfl, kBox_kept h2' rfl rfl (fun k hk => z k (by omega)), ⟨⟨key 0 a1, key 1 a2, key 2 a3, ?_⟩, ⟨?_, ?_, ?_, ?_, ?_⟩, ?_, r2⟩, ?_, ?_, ?_, ?_, ?_, ?_⟩
  · show jU (x 7) w a 2 ≤ 15
    by_cases q : w = 2
    · subst q; rw [jU_at]; exact h2 rfl
    · rw [jU_ne (by omega)]; exact a4
  · rw [z8]; exact w0
  · rw [z8]; exact w1
  · rw [z8]; exact w2
  · rw [z8]; exact w3
  · rw [z8]; exact w4
  · rw [z9]; exact r1
  · rw [z _ (by omega)]; exact c1
  · rw [z _ (by omega)]; exact c2
  · rw [z _ (by omega)]; exact c3
  · rw [z _ (by omega)]; exact c4
  · rw [z _ (by omega)]; exact c5
  · rw [z _ (by omega)]; exact c6
end
