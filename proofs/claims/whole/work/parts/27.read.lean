/-! the reference: reading texts -/
def kS (b : Int) : Int := if b = 0 then 120 else if b = 1 then 119 else 38
def thR3 (x : Int → Int) (n m p : Int) (r : Int → Int) : Int × Int × (Int → Int) := if tkP x n 98 p = 0 then (0, p, r) else (nmZ x n 0 9 (p + 1), nmP x n 0 9 (p + 1), jU r (5 * m + 3) (nmV x n 0 9 (p + 1)))
def thR2 (x : Int → Int) (n m p : Int) (r : Int → Int) : Int × Int × (Int → Int) := if tkP x n 114 p = 0 then (0, p, r) else if nmZ x n 0 100 (p + 1) = 0 then (0, nmP x n 0 100 (p + 1), jU r (5 * m + 2) (nmV x n 0 100 (p + 1))) else thR3 x n m (nmP x n 0 100 (p + 1)) (jU r (5 * m + 2) (nmV x n 0 100 (p + 1)))
def thR (x : Int → Int) (n m p : Int) (r : Int → Int) : Int × Int × (Int → Int) := if tkP x n 119 p = 0 then (0, p, r) else if nmZ x n 50 300 (p + 1) = 0 then (0, nmP x n 50 300 (p + 1), jU r (5 * m + 1) (nmV x n 50 300 (p + 1))) else thR2 x n m (nmP x n 50 300 (p + 1)) (jU r (5 * m + 1) (nmV x n 50 300 (p + 1)))
def paR (x : Int → Int) (n m b p : Int) (r : Int → Int) : Int × Int × (Int → Int) := if kdF x n b p = 1 then thR x n m p (jU r (5 * m) 119) else if kdF x n b p = 0 then (1, p + 1, jU r (5 * m) 120) else thR x n m (p + 1) (jU r (5 * m) 38)
def ruR (x : Int → Int) (n m p : Int) (r : Int → Int) : Int × Int × (Int → Int) := if (thR x n m p r).1 = 0 then thR x n m p r else if tkP x n 62 (thR x n m p r).2.1 = 0 then (0, (thR x n m p r).2) else (nmZ x n 0 3 ((thR x n m p r).2.1 + 1), nmP x n 0 3 ((thR x n m p r).2.1 + 1), jU (thR x n m p r).2.2 (5 * m + 4) (nmV x n 0 3 ((thR x n m p r).2.1 + 1)))
def stX (w : Int) (x : Int → Int) (n m b p : Int) (r : Int → Int) : Int × Int × (Int → Int) := if w = 0 then paR x n m b p r else ruR x n m p r
def fX (w : Int) (x : Int → Int) (n : Int) : Nat → Int → Int → Int → (Int → Int) → Int × Int × Int × (Int → Int)
  | 0, p, m, _, r => (0, p, m, r)
  | f + 1, p, m, b, r => if (stX w x n m b p r).1 = 0 then (0, (stX w x n m b p r).2.1, m, (stX w x n m b p r).2.2) else if tkP x n 44 (stX w x n m b p r).2.1 = 0 then (if n ≤ (stX w x n m b p r).2.1 then 1 else 0, (stX w x n m b p r).2.1, m + 1, (stX w x n m b p r).2.2) else fX w x n f ((stX w x n m b p r).2.1 + 1) (m + 1) (kdF x n b p) (stX w x n m b p r).2.2
theorem thR3_rng {x : Int → Int} {n m p : Int} {r : Int → Int} (hp : p ≤ n) : ((thR3 x n m p r).1 = 0 ∨ (thR3 x n m p r).1 = 1) ∧ p ≤ (thR3 x n m p r).2.1 ∧ (thR3 x n m p r).2.1 ≤ n := by
  unfold thR3
  by_cases q : tkP x n 98 p = 0
  · rw [if_pos q]; dsimp only; omega
  · have q2 := tkP_1 q
    have g := nm_rng (x := x) (n := n) (lo := 0) (hi := 9) (p := p + 1) (by omega) (by omega)
    have g2 := nmZ_01 x n 0 9 (p + 1)
    rw [if_neg q]; dsimp only; omega
theorem thR2_rng {x : Int → Int} {n m p : Int} {r : Int → Int} (hp : p ≤ n) : ((thR2 x n m p r).1 = 0 ∨ (thR2 x n m p r).1 = 1) ∧ p ≤ (thR2 x n m p r).2.1 ∧ (thR2 x n m p r).2.1 ≤ n := by
  unfold thR2
  by_cases q : tkP x n 114 p = 0
  · rw [if_pos q]; dsimp only; omega
  · have q2 := tkP_1 q
    have g := nm_rng (x := x) (n := n) (lo := 0) (hi := 100) (p := p + 1) (by omega) (by omega)
    rw [if_neg q]
    split
    · dsimp only; omega
    · have := thR3_rng (x := x) (n := n) (m := m) (p := nmP x n 0 100 (p + 1)) (r := jU r (5 * m + 2) (nmV x n 0 100 (p + 1))) g.1.2
      omega
theorem thR_rng {x : Int → Int} {n m p : Int} {r : Int → Int} (hp : p ≤ n) : ((thR x n m p r).1 = 0 ∨ (thR x n m p r).1 = 1) ∧ p ≤ (thR x n m p r).2.1 ∧ (thR x n m p r).2.1 ≤ n ∧ ((thR x n m p r).1 = 1 → p + 1 ≤ (thR x n m p r).2.1) := by
  unfold thR
  by_cases q : tkP x n 119 p = 0
  · rw [if_pos q]; dsimp only; omega
  · have q2 := tkP_1 q
    have g := nm_rng (x := x) (n := n) (lo := 50) (hi := 300) (p := p + 1) (by omega) (by omega)
    rw [if_neg q]
    split
    · dsimp only; omega
    · have := thR2_rng (x := x) (n := n) (m := m) (p := nmP x n 50 300 (p + 1)) (r := jU r (5 * m + 1) (nmV x n 50 300 (p + 1))) g.1.2
      omega
theorem kd3 {x : Int → Int} {n b p : Int} (hp : p ≤ n) : (kdF x n b p = 1 ∧ tkP x n 120 p = 0 ∧ ¬ (b = 1 ∧ tkP x n 38 p = 1)) ∨ (kdF x n b p = 0 ∧ p < n ∧ tkP x n 120 p = 1) ∨ (kdF x n b p = 2 ∧ p < n ∧ tkP x n 120 p = 0 ∧ b = 1 ∧ tkP x n 38 p = 1) := by
  unfold kdF
  by_cases q : tkP x n 120 p = 0
  · rw [if_pos q]
    by_cases q2 : b = 1 ∧ tkP x n 38 p = 1
    · rw [if_pos q2]
      have := (tkP_1 (x := x) (n := n) (c := 38) (p := p) (by omega)).2.1
      omega
    · rw [if_neg q2]; omega
  · rw [if_neg q]
    have := tkP_1 q
    omega
theorem paR_rng {x : Int → Int} {n m b p : Int} {r : Int → Int} (hp : p ≤ n) : ((paR x n m b p r).1 = 0 ∨ (paR x n m b p r).1 = 1) ∧ p ≤ (paR x n m b p r).2.1 ∧ (paR x n m b p r).2.1 ≤ n ∧ ((paR x n m b p r).1 = 1 → p + 1 ≤ (paR x n m b p r).2.1) := by
  unfold paR
  rcases kd3 (x := x) (n := n) (b := b) hp with h | h | h
  · rw [if_pos h.1]; exact thR_rng hp
  · rw [if_neg (by omega), if_pos h.1]; dsimp only; omega
  · rw [if_neg (by omega), if_neg (by omega)]
    have := thR_rng (x := x) (n := n) (m := m) (p := p + 1) (r := jU r (5 * m) 38) (by omega)
    omega
theorem ruR_rng {x : Int → Int} {n m p : Int} {r : Int → Int} (hp : p ≤ n) : ((ruR x n m p r).1 = 0 ∨ (ruR x n m p r).1 = 1) ∧ p ≤ (ruR x n m p r).2.1 ∧ (ruR x n m p r).2.1 ≤ n ∧ ((ruR x n m p r).1 = 1 → p + 1 ≤ (ruR x n m p r).2.1) := by
  have k := thR_rng (x := x) (n := n) (m := m) (p := p) (r := r) hp
  unfold ruR
  split
  · exact k
  · split
    · dsimp only; omega
    · rename_i h1 h2
      have := (tkP_1 h2).2.1
      have g := nm_rng (x := x) (n := n) (lo := 0) (hi := 3) (p := (thR x n m p r).2.1 + 1) (by omega) (by omega)
      have := nmZ_01 x n 0 3 ((thR x n m p r).2.1 + 1)
      dsimp only
      omega
theorem stX_rng {w : Int} {x : Int → Int} {n m b p : Int} {r : Int → Int} (hp : p ≤ n) : ((stX w x n m b p r).1 = 0 ∨ (stX w x n m b p r).1 = 1) ∧ p ≤ (stX w x n m b p r).2.1 ∧ (stX w x n m b p r).2.1 ≤ n ∧ ((stX w x n m b p r).1 = 1 → p + 1 ≤ (stX w x n m b p r).2.1) := by
  unfold stX
  split
  · exact paR_rng hp
  · exact ruR_rng hp
theorem thR_low {x : Int → Int} {n m p : Int} {r : Int → Int} {k : Int} (hk : k < 5 * m + 1 ∨ 5 * m + 3 < k) : (thR x n m p r).2.2 k = r k := by
  unfold thR thR2 thR3
  split
  · rfl
  · split
    · exact jU_ne (by omega)
    · split
      · exact jU_ne (by omega)
      · split
        · show jU (jU r _ _) _ _ k = r k
          rw [jU_ne (by omega), jU_ne (by omega)]
        · split
          · show jU (jU r _ _) _ _ k = r k
            rw [jU_ne (by omega), jU_ne (by omega)]
          · show jU (jU (jU r _ _) _ _) _ _ k = r k
            rw [jU_ne (by omega), jU_ne (by omega), jU_ne (by omega)]
theorem paR_at {x : Int → Int} {n m b p : Int} {r : Int → Int} (hp : p ≤ n) : (paR x n m b p r).2.2 (5 * m) = kS (kdF x n b p) ∧ ∀ k, k < 5 * m ∨ 5 * m + 3 < k → (paR x n m b p r).2.2 k = r k := by
  unfold paR
  rcases kd3 (x := x) (n := n) (b := b) hp with h | h | h
  · rw [if_pos h.1, h.1]
    refine ⟨?_, fun k hk => ?_⟩
    · rw [thR_low (by omega), jU_at]; rfl
    · rw [thR_low (by omega), jU_ne (by omega)]
  · rw [if_neg (by omega), if_pos h.1, h.1]
    refine ⟨?_, fun k hk => ?_⟩
    · exact jU_at _ _ _
    · exact jU_ne (by omega)
  · rw [if_neg (by omega), if_neg (by omega), h.1]
    refine ⟨?_, fun k hk => ?_⟩
    · rw [thR_low (by omega), jU_at]; rfl
    · rw [thR_low (by omega), jU_ne (by omega)]
theorem fX_rng (w : Int) (x : Int → Int) (n : Int) : ∀ (f : Nat) (p m b : Int) (r : Int → Int), 0 ≤ p → p ≤ n → 0 ≤ m → ((fX w x n f p m b r).1 = 0 ∨ (fX w x n f p m b r).1 = 1) ∧ 0 ≤ (fX w x n f p m b r).2.1 ∧ (fX w x n f p m b r).2.1 ≤ n ∧ 0 ≤ (fX w x n f p m b r).2.2.1 := by
  intro f
  induction f with
  | zero => intro p m b r h0 h hm; unfold fX; dsimp only; omega
  | succ f ih =>
    intro p m b r h0 h hm
    have st := stX_rng (w := w) (x := x) (n := n) (m := m) (b := b) (p := p) (r := r) h
    unfold fX
    split
    · dsimp only; omega
    · split
      · dsimp only
        split <;> omega
      · rename_i h1 h2
        have := (tkP_1 h2).2.1
        exact ih _ _ _ _ (by omega) (by omega) (by omega)
def fltM (w : Int) (x : Int → Int) (n p m : Int) (r : Int → Int) : Int × Int × Int × (Int → Int) := if w < 0 ∨ 1 < w then (-1, p, m, r) else (if (fX w x n 60 0 0 0 r).1 = 0 then (fX w x n 60 0 0 0 r).2.1 else -4, (fX w x n 60 0 0 0 r).2)
set_option maxRecDepth 20000 in
theorem in_X8_isAt_X8 : ∀ x ∈ u_ws RX8 TX8 11, x ∈ wsX8_isAt := by decide +kernel
theorem kX8_isAt_X8_in : jKs mX8_isAt 32 yX8_in wsX8_in rmX8_in 3 := ⟨gX8_isAt_X8_in, ⟨_, _, _, _, rfl, by decide⟩, by decide +kernel, rfl, rfl, by decide⟩
set_option maxRecDepth 100000 in
set_option maxHeartbeats 4000000 in
theorem c_X8_isAt (E : jE) (o i0 i1 i2 i3 i4 i5 : Nat) (k0 k1 n p m : Int) (x r : Int → Int) (lo hi : Int) (hn : 0 ≤ n ∧ n ≤ 60) (hp : 0 ≤ p ∧ p ≤ n) (hx : ∀ i, 0 ≤ x i ∧ x i < 1000) (lob : -2147483648 ≤ lo ∧ lo < 2147483648) (hib : -2147483648 ≤ hi ∧ hi < 2147483648) : jMI E yX8_isAt wsX8_isAt rmX8_isAt [.ref o, .int (jI lo), .int (jI hi)] (wMr E o i0 i1 i2 i3 i4 i5 k0 k1 (n) (p) (m) x (r)) (if p < n ∧ (lo ≤ x p ∧ x p ≤ hi) then 1 else 0) (wMr E o i0 i1 i2 i3 i4 i5 k0 k1 (n) (p) (m) x (r)) := by
  refine jMI_of (cc := cX8_isAt) (maxL := 3) (ret := (some .boolean)) [(0, .ref o), (1, .int (jI lo)), (2, .int (jI hi))] (by decide) rfl rfl (Nat.le_of_ble_eq_true rfl) (fun C => ?_)
  show jG mX8_isAt E C (jQi E C (if p < n ∧ (lo ≤ x p ∧ x p ≤ hi) then 1 else 0) (wMr E o i0 i1 i2 i3 i4 i5 k0 k1 (n) (p) (m) x (r))) 0 0 0 [(0, .ref o), (1, .int (jI lo)), (2, .int (jI hi))] [] (wMr E o i0 i1 i2 i3 i4 i5 k0 k1 (n) (p) (m) x (r))
  have q1 : (lo ≤ (x p) ∧ (x p) ≤ hi ∧ (if lo ≤ (x p) ∧ (x p) ≤ hi then (1 : Int) else 0) = 1) ∨ (¬ (lo ≤ (x p) ∧ (x p) ≤ hi) ∧ (if lo ≤ (x p) ∧ (x p) ≤ hi then (1 : Int) else 0) = 0) := by split <;> omega
  have hxp := hx p
  refine j_aload_n 0 1 dX8_isAt_0 rfl rfl ?_
  refine j_get 0 8 1 4 in_X8_isAt_X8 dX8_isAt_1 rfl rfl rfl (by decide) rfl rfl ?_
  refine j_aload_n 0 5 dX8_isAt_4 rfl rfl ?_
  refine j_get 0 7 2 8 in_X8_isAt_X8 dX8_isAt_5 rfl rfl rfl (by decide) rfl rfl ?_
  refine j_icmp_ge 32 11 dX8_isAt_8 rfl (by decide) (by omega) (by omega) (fun h_8 => ?_) (fun h_8 => ?_)
  · skip
    refine j_iconst 33 dX8_isAt_32 rfl ?_
    exact j_zret dX8_isAt_33 rfl (by first | exact (if_pos (by omega)).symm | exact (if_neg (by omega)).symm) (by omega) (by rfl)
  · skip
    refine j_aload_n 0 12 dX8_isAt_11 rfl rfl ?_
    refine j_get 0 6 3 15 in_X8_isAt_X8 dX8_isAt_12 rfl rfl rfl (by decide) rfl rfl ?_
    refine j_aload_n 0 16 dX8_isAt_15 rfl rfl ?_
    refine j_get 0 8 1 19 in_X8_isAt_X8 dX8_isAt_16 rfl rfl rfl (by decide) rfl rfl ?_
    refine j_iald 1 20 dX8_isAt_19 rfl rfl (by decide) (by omega) ?_
    refine j_iload_n 1 21 dX8_isAt_20 rfl rfl ?_
    refine j_iload_n 2 22 dX8_isAt_21 rfl rfl ?_
    refine j_callSi [] 25 [_, _, _] (c_X8_in E _ _ _ (by omega) (by omega) (by omega)) rfl kX8_isAt_X8_in rfl rfl rfl rfl rfl (Nat.le_of_ble_eq_true rfl) (by decide) dX8_isAt_22 rfl ?_
    refine j_if_eq 32 28 dX8_isAt_25 rfl (by decide) (by omega) (fun h_25 => ?_) (fun h_25 => ?_)
    · skip
      refine j_iconst 33 dX8_isAt_32 rfl ?_
      exact j_zret dX8_isAt_33 rfl (by first | exact (if_pos (by omega)).symm | exact (if_neg (by omega)).symm) (by omega) (by rfl)
    · skip
      refine j_iconst 29 dX8_isAt_28 rfl ?_
      refine j_goto 33 dX8_isAt_29 (by decide) ?_
      exact j_zret dX8_isAt_33 rfl (by first | exact (if_pos (by omega)).symm | exact (if_neg (by omega)).symm) (by omega) (by rfl)
theorem kX8_sign_X8_isAt : jKv mX8_sign 109 yX8_isAt wsX8_isAt rmX8_isAt 2 := ⟨gX8_sign_X8_isAt, ⟨_, _, _, _, rfl, by decide⟩, by decide +kernel, rfl, rfl, by decide⟩
set_option maxRecDepth 20000 in
theorem in_X8_sign_X8 : ∀ x ∈ u_ws RX8 TX8 11, x ∈ wsX8_sign := by decide +kernel
set_option maxRecDepth 100000 in
set_option maxHeartbeats 4000000 in
theorem c_X8_sign (E : jE) (o i0 i1 i2 i3 i4 i5 : Nat) (k0 k1 n p m : Int) (x r : Int → Int) (s : Int) (hn : 0 ≤ n ∧ n ≤ 60) (hp : 0 ≤ p ∧ p ≤ n) (hx : ∀ i, 0 ≤ x i ∧ x i < 1000) (sb : -2147483648 ≤ s ∧ s < 2147483648) : jMI E yX8_sign wsX8_sign rmX8_sign [.ref o, .int (jI s)] (wMr E o i0 i1 i2 i3 i4 i5 k0 k1 (n) (p) (m) x (r)) (tkP x n s p) (wMr E o i0 i1 i2 i3 i4 i5 k0 k1 (n) (p + tkP x n s p) (m) x (r)) := by
  refine jMI_of (cc := cX8_sign) (maxL := 3) (ret := (some .boolean)) [(0, .ref o), (1, .int (jI s))] (by decide) rfl rfl (Nat.le_of_ble_eq_true rfl) (fun C => ?_)
  show jG mX8_sign E C (jQi E C (tkP x n s p) (wMr E o i0 i1 i2 i3 i4 i5 k0 k1 (n) (p + tkP x n s p) (m) x (r))) 0 0 0 [(0, .ref o), (1, .int (jI s))] [] (wMr E o i0 i1 i2 i3 i4 i5 k0 k1 (n) (p) (m) x (r))
  have hxp := hx p
  have q1 := tkP_01 x n s p
  have e1 : (if p < n ∧ (s ≤ x p ∧ x p ≤ s) then (1 : Int) else 0) = tkP x n s p := by unfold tkP; (repeat' split) <;> omega
  refine j_aload_n 0 1 dX8_sign_0 rfl rfl ?_
  refine j_iload_n 1 2 dX8_sign_1 rfl rfl ?_
  refine j_iload_n 1 3 dX8_sign_2 rfl rfl ?_
  refine j_callVi 0 [0, 1, 2] 6 [_, _, _] (c_X8_isAt E _ _ _ _ _ _ _ _ _ _ _ _ _ _ _ _ (by omega) (by omega) (by assumption) (by omega) (by omega)) rfl kX8_sign_X8_isAt rfl rfl rfl rfl rfl rfl rfl (Nat.le_of_ble_eq_true rfl) (by decide) dX8_sign_3 rfl ?_
  rw [e1]
  refine j_istore_n 7 [_, _, _] dX8_sign_6 rfl (by decide) rfl ?_
  refine j_aload_n 1 8 dX8_sign_7 rfl rfl ?_
  refine j_dup 9 dX8_sign_8 rfl rfl ?_
  refine j_get 0 8 1 12 in_X8_sign_X8 dX8_sign_9 rfl rfl rfl (by decide) rfl rfl ?_
  refine j_iload_n 0 13 dX8_sign_12 rfl rfl ?_
  refine j_if_eq 20 16 dX8_sign_13 rfl (by decide) (by omega) (fun h_13 => ?_) (fun h_13 => ?_)
  · skip
    rw [h_13]
    refine j_iconst 21 dX8_sign_20 rfl ?_
    refine j_iadd 22 dX8_sign_21 rfl ?_
    refine j_put 0 8 1 25 [(_, .inr (_, [_, _, _, _, _, _, _, _, _, _, _])), _, _] tyX8 tyX8_ok nmX8 in_X8_sign_X8 dX8_sign_22 rfl rfl rfl (by decide) rfl rfl rfl rfl rfl (Nat.le_of_ble_eq_true rfl) rfl ?_
    refine j_iload_n 0 26 dX8_sign_25 rfl rfl ?_
    exact j_zret dX8_sign_26 rfl (by rfl) (by omega) (by rfl)
  · skip
    rw [show tkP x n s p = 1 by omega]
    refine j_iconst 17 dX8_sign_16 rfl ?_
    refine j_goto 21 dX8_sign_17 (by decide) ?_
    refine j_iadd 22 dX8_sign_21 rfl ?_
    refine j_put 0 8 1 25 [(_, .inr (_, [_, _, _, _, _, _, _, _, _, _, _])), _, _] tyX8 tyX8_ok nmX8 in_X8_sign_X8 dX8_sign_22 rfl rfl rfl (by decide) rfl rfl rfl rfl rfl (Nat.le_of_ble_eq_true rfl) rfl ?_
    refine j_iload_n 0 26 dX8_sign_25 rfl rfl ?_
    exact j_zret dX8_sign_26 rfl (by rfl) (by omega) (by rfl)
set_option maxRecDepth 100000 in
set_option maxHeartbeats 4000000 in
theorem c_X8_begins (E : jE) (s lo hi : Int) (hs : 0 ≤ s ∧ s ≤ 100000) (hlo : 0 ≤ lo ∧ lo ≤ 100000) (hhi : 0 ≤ hi ∧ hi ≤ 100000) : jMI E yX8_begins wsX8_begins rmX8_begins [.int (jI s), .int (jI lo), .int (jI hi)] ([]) (bgF 3 s s lo hi) ([]) := by
  refine jMI_of (cc := cX8_begins) (maxL := 6) (ret := (some .boolean)) [(0, .int (jI s)), (1, .int (jI lo)), (2, .int (jI hi))] (by decide) rfl rfl (Nat.le_of_ble_eq_true rfl) (fun C => ?_)
  show jG mX8_begins E C (jQi E C (bgF 3 s s lo hi) ([])) 0 0 0 [(0, .int (jI s)), (1, .int (jI lo)), (2, .int (jI hi))] [] ([])
  obtain ⟨T, hT⟩ : ∃ T, T = bgF 3 s s lo hi := ⟨_, rfl⟩
  rw [← hT]
  refine j_iload_n 0 1 dX8_begins_0 rfl rfl ?_
  refine j_istore_n 2 [_, _, _, _] dX8_begins_1 rfl (by decide) rfl ?_
  refine j_iload_n 1 3 dX8_begins_2 rfl rfl ?_
  refine j_istore 5 [_, _, _, _, _] dX8_begins_3 rfl (by decide) rfl ?_
  refine j_iconst 6 dX8_begins_5 rfl ?_
  refine j_istore 8 [_, _, _, _, _, _] dX8_begins_6 rfl (by decide) rfl ?_
  have key8 : ∀ (fu : Nat) (i u v : Int), i + fu = 4 → (0 ≤ i ∧ i ≤ 3) → (0 ≤ u ∧ u ≤ 100000000 ∧ (i ≤ 2 → u ≤ 10000000) ∧ (i ≤ 1 → u ≤ 1000000) ∧ (i ≤ 0 → u ≤ 100000)) → (0 ≤ v ∧ v ≤ 1000000000 ∧ (i ≤ 2 → v ≤ 20000000) ∧ (i ≤ 1 → v ≤ 1500000) ∧ (i ≤ 0 → v ≤ 100000)) → T = bgF (3 - i).toNat u v lo hi → jG mX8_begins E C (jQi E C (T) ([])) 0 0 8 [(0, .int (jI s)), (1, .int (jI lo)), (2, .int (jI hi)), (3, .int (jI u)), (4, .int (jI v)), (5, .int (jI i))] [] ([]) := by
    intro fu
    induction fu with
    | zero => intro i u v h1 h2 h3 h4 he; exact absurd h1 (by omega)
    | succ fu ih =>
      intro i u v h1 h2 h3 h4 he
      refine j_iload 5 10 dX8_begins_8 rfl rfl ?_
      refine j_iconst 11 dX8_begins_10 rfl ?_
      refine j_icmp_ge 48 14 dX8_begins_11 rfl (by decide) (by omega) (by omega) (fun h_11 => ?_) (fun h_11 => ?_)
      · skip
        obtain rfl : i = 3 := by omega
        change _ = (0 : Int) at he
        rw [he]
        refine j_iconst 49 dX8_begins_48 rfl ?_
        exact j_zret dX8_begins_49 rfl (by rfl) (by decide) (by rfl)
      · skip
        rw [show (3 - i).toNat = (3 - (i + 1)).toNat + 1 by omega, bgF] at he
        refine j_iload_n 3 15 dX8_begins_14 rfl rfl ?_
        refine j_iload_n 2 16 dX8_begins_15 rfl rfl ?_
        refine j_icmp_gt 27 19 dX8_begins_16 rfl (by decide) (by omega) (by omega) (fun h_16 => ?_) (fun h_16 => ?_)
        · skip
          refine j_bipush 29 dX8_begins_27 rfl (by decide) ?_
          refine j_iload_n 3 30 dX8_begins_29 rfl rfl ?_
          refine j_imul 31 dX8_begins_30 rfl ?_
          refine j_istore_n 32 [_, _, _, _, _, _] dX8_begins_31 rfl (by decide) rfl ?_
          refine j_bipush 34 dX8_begins_32 rfl (by decide) ?_
          refine j_iload 4 36 dX8_begins_34 rfl rfl ?_
          refine j_imul 37 dX8_begins_36 rfl ?_
          refine j_bipush 39 dX8_begins_37 rfl (by decide) ?_
          refine j_iadd 40 dX8_begins_39 rfl ?_
          refine j_istore 42 [_, _, _, _, _, _] dX8_begins_40 rfl (by decide) rfl ?_
          refine j_iinc 5 45 [_, _, _, _, _, _] dX8_begins_42 rfl rfl (by decide) rfl ?_
          refine j_goto 8 dX8_begins_45 (by decide) ?_
          refine j_perm [3, 4, 5, 2, 1, 0] rfl ?_
          rw [if_neg (by omega)] at he
          rw [show (10 : Int) * u = u * 10 by omega, show (10 : Int) * v = v * 10 by omega]
          exact ih (i + 1) (u * 10) (v * 10 + 9) (by omega) (by omega) (by omega) (by omega) he
        · skip
          refine j_iload 4 21 dX8_begins_19 rfl rfl ?_
          refine j_iload_n 1 22 dX8_begins_21 rfl rfl ?_
          refine j_icmp_lt 27 25 dX8_begins_22 rfl (by decide) (by omega) (by omega) (fun h_22 => ?_) (fun h_22 => ?_)
          · skip
            refine j_bipush 29 dX8_begins_27 rfl (by decide) ?_
            refine j_iload_n 3 30 dX8_begins_29 rfl rfl ?_
            refine j_imul 31 dX8_begins_30 rfl ?_
            refine j_istore_n 32 [_, _, _, _, _, _] dX8_begins_31 rfl (by decide) rfl ?_
            refine j_bipush 34 dX8_begins_32 rfl (by decide) ?_
            refine j_iload 4 36 dX8_begins_34 rfl rfl ?_
            refine j_imul 37 dX8_begins_36 rfl ?_
            refine j_bipush 39 dX8_begins_37 rfl (by decide) ?_
            refine j_iadd 40 dX8_begins_39 rfl ?_
            refine j_istore 42 [_, _, _, _, _, _] dX8_begins_40 rfl (by decide) rfl ?_
            refine j_iinc 5 45 [_, _, _, _, _, _] dX8_begins_42 rfl rfl (by decide) rfl ?_
            refine j_goto 8 dX8_begins_45 (by decide) ?_
            refine j_perm [3, 4, 5, 2, 1, 0] rfl ?_
            rw [if_neg (by omega)] at he
            rw [show (10 : Int) * u = u * 10 by omega, show (10 : Int) * v = v * 10 by omega]
            exact ih (i + 1) (u * 10) (v * 10 + 9) (by omega) (by omega) (by omega) (by omega) he
          · skip
            rw [if_pos (by omega)] at he
            rw [he]
            refine j_iconst 26 dX8_begins_25 rfl ?_
            exact j_zret dX8_begins_26 rfl (by rfl) (by decide) (by rfl)
  refine j_perm [3, 4, 5, 2, 1, 0] rfl ?_
  exact key8 4 0 s s (by omega) (by omega) (by omega) (by omega) hT
set_option maxRecDepth 20000 in
theorem in_X8_number_X8 : ∀ x ∈ u_ws RX8 TX8 11, x ∈ wsX8_number := by decide +kernel
theorem kX8_number_X8_in : jKs mX8_number 32 yX8_in wsX8_in rmX8_in 3 := ⟨gX8_number_X8_in, ⟨_, _, _, _, rfl, by decide⟩, by decide +kernel, rfl, rfl, by decide⟩
theorem kX8_number_X8_isAt : jKv mX8_number 109 yX8_isAt wsX8_isAt rmX8_isAt 2 := ⟨gX8_number_X8_isAt, ⟨_, _, _, _, rfl, by decide⟩, by decide +kernel, rfl, rfl, by decide⟩
theorem kX8_number_X8_begins : jKs mX8_number 113 yX8_begins wsX8_begins rmX8_begins 3 := ⟨gX8_number_X8_begins, ⟨_, _, _, _, rfl, by decide⟩, by decide +kernel, rfl, rfl, by decide⟩
set_option maxRecDepth 100000 in
set_option maxHeartbeats 4000000 in
theorem c_X8_number (E : jE) (o i0 i1 i2 i3 i4 i5 : Nat) (k0 k1 n p m : Int) (x r : Int → Int) (to lo hi : Int) (hn : 0 ≤ n ∧ n ≤ 60) (hp : 0 ≤ p ∧ p ≤ n) (hx : ∀ i, 0 ≤ x i ∧ x i < 1000) (hlo : 0 ≤ lo ∧ lo ≤ 300) (hhi : 0 ≤ hi ∧ hi ≤ 300) (hto : 0 ≤ to ∧ to ≤ 4) (hm : 0 ≤ m ∧ m < 30) : jMI E yX8_number wsX8_number rmX8_number [.ref o, .int (jI to), .int (jI lo), .int (jI hi)] (wMr E o i0 i1 i2 i3 i4 i5 k0 k1 (n) (p) (m) x (r)) (nmZ x n lo hi p) (wMr E o i0 i1 i2 i3 i4 i5 k0 k1 (n) (nmP x n lo hi p) (m) x (jU r (5 * m + to) (nmV x n lo hi p))) := by
  refine jMI_of (cc := cX8_number) (maxL := 8) (ret := (some .boolean)) [(0, .ref o), (1, .int (jI to)), (2, .int (jI lo)), (3, .int (jI hi))] (by decide) rfl rfl (Nat.le_of_ble_eq_true rfl) (fun C => ?_)
  show jG mX8_number E C (jQi E C (nmZ x n lo hi p) (wMr E o i0 i1 i2 i3 i4 i5 k0 k1 (n) (nmP x n lo hi p) (m) x (jU r (5 * m + to) (nmV x n lo hi p)))) 0 0 0 [(0, .ref o), (1, .int (jI to)), (2, .int (jI lo)), (3, .int (jI hi))] [] (wMr E o i0 i1 i2 i3 i4 i5 k0 k1 (n) (p) (m) x (r))
  obtain ⟨T, hT⟩ : ∃ T, T = nmL x n lo hi 61 p 0 0 := ⟨_, rfl⟩
  refine j_iconst 1 dX8_number_0 rfl ?_
  refine j_istore 3 [_, _, _, _, _] dX8_number_1 rfl (by decide) rfl ?_
  refine j_iconst 4 dX8_number_3 rfl ?_
  refine j_istore 6 [_, _, _, _, _, _] dX8_number_4 rfl (by decide) rfl ?_
  refine j_iconst 7 dX8_number_6 rfl ?_
  refine j_istore 9 [_, _, _, _, _, _, _] dX8_number_7 rfl (by decide) rfl ?_
  have key135 : ∀ (q v d : Int), T = (q, v, d) → (0 ≤ v ∧ v ≤ 300) → (0 ≤ d ∧ d ≤ 100) → jG mX8_number E C (jQi E C (nmZ x n lo hi p) (wMr E o i0 i1 i2 i3 i4 i5 k0 k1 (n) (nmP x n lo hi p) (m) x (jU r (5 * m + to) (nmV x n lo hi p)))) 0 0 135 [(0, .ref o), (1, .int (jI to)), (2, .int (jI lo)), (3, .int (jI hi)), (4, .int (jI v)), (5, .int (jI d))] [] (wMr E o i0 i1 i2 i3 i4 i5 k0 k1 (n) (q) (m) x (r)) := by
    intro q v d he hv hd
    have eP : nmP x n lo hi p = q := by unfold nmP; rw [← hT, he]
    have eV : nmV x n lo hi p = v := by unfold nmV; rw [← hT, he]
    have eZ : nmZ x n lo hi p = if 0 < d ∧ lo ≤ v ∧ v ≤ hi then 1 else 0 := by unfold nmZ nmD nmV; rw [← hT, he]
    rw [eP, eV, eZ]
    have q7 : (lo ≤ v ∧ v ≤ hi ∧ (if lo ≤ v ∧ v ≤ hi then (1 : Int) else 0) = 1) ∨ (¬ (lo ≤ v ∧ v ≤ hi) ∧ (if lo ≤ v ∧ v ≤ hi then (1 : Int) else 0) = 0) := by split <;> omega
    refine j_aload_n 0 136 dX8_number_135 rfl rfl ?_
    refine j_get 0 10 3 139 in_X8_number_X8 dX8_number_136 rfl rfl rfl (by decide) rfl rfl ?_
    refine j_iconst 140 dX8_number_139 rfl ?_
    refine j_aload_n 0 141 dX8_number_140 rfl rfl ?_
    refine j_get 0 9 4 144 in_X8_number_X8 dX8_number_141 rfl rfl rfl (by decide) rfl rfl ?_
    refine j_imul 145 dX8_number_144 rfl ?_
    refine j_iload_n 1 146 dX8_number_145 rfl rfl ?_
    refine j_iadd 147 dX8_number_146 rfl ?_
    refine j_iload 4 149 dX8_number_147 rfl rfl ?_
    refine j_iast 2 150 [_, _, _] dX8_number_149 rfl rfl (by decide) (by omega) rfl ?_
    refine j_iload 5 152 dX8_number_150 rfl rfl ?_
    refine j_if_le 169 155 dX8_number_152 rfl (by decide) (by omega) (fun h_152 => ?_) (fun h_152 => ?_)
    · skip
      refine j_iconst 170 dX8_number_169 rfl ?_
      exact j_zret dX8_number_170 rfl (by first | exact (if_pos (by omega)).symm | exact (if_neg (by omega)).symm) (by omega) (by rfl)
    · skip
      refine j_iload 4 157 dX8_number_155 rfl rfl ?_
      refine j_iload_n 2 158 dX8_number_157 rfl rfl ?_
      refine j_iload_n 3 159 dX8_number_158 rfl rfl ?_
      refine j_callSi [] 162 [_, _, _] (c_X8_in E _ _ _ (by omega) (by omega) (by omega)) rfl kX8_number_X8_in rfl rfl rfl rfl rfl (Nat.le_of_ble_eq_true rfl) (by decide) dX8_number_159 rfl ?_
      refine j_if_eq 169 165 dX8_number_162 rfl (by decide) (by omega) (fun h_162 => ?_) (fun h_162 => ?_)
      · skip
        refine j_iconst 170 dX8_number_169 rfl ?_
        exact j_zret dX8_number_170 rfl (by first | exact (if_pos (by omega)).symm | exact (if_neg (by omega)).symm) (by omega) (by rfl)
      · skip
        refine j_iconst 166 dX8_number_165 rfl ?_
        refine j_goto 170 dX8_number_166 (by decide) ?_
        exact j_zret dX8_number_170 rfl (by first | exact (if_pos (by omega)).symm | exact (if_neg (by omega)).symm) (by omega) (by rfl)
  have key9 : ∀ (fu : Nat) (q v d : Int), n < q + fu → (0 ≤ q ∧ q ≤ n) → (0 ≤ v ∧ v ≤ hi) → (0 ≤ d ∧ d ≤ q) → T = nmL x n lo hi fu q v d → jG mX8_number E C (jQi E C (nmZ x n lo hi p) (wMr E o i0 i1 i2 i3 i4 i5 k0 k1 (n) (nmP x n lo hi p) (m) x (jU r (5 * m + to) (nmV x n lo hi p)))) 0 0 9 [(0, .ref o), (1, .int (jI to)), (2, .int (jI lo)), (3, .int (jI hi)), (4, .int (jI v)), (5, .int (jI d)), (6, .int (jI 1))] [] (wMr E o i0 i1 i2 i3 i4 i5 k0 k1 (n) (q) (m) x (r)) := by
    intro fu
    induction fu with
    | zero => intro q v d h1 h2 h3 h4 he; exact absurd h1 (by omega)
    | succ fu ih =>
      intro q v d h1 h2 h3 h4 he
      rw [nmL] at he
      have hxq := hx q
      refine j_iload 6 11 dX8_number_9 rfl rfl ?_
      refine j_if_eq 135 14 dX8_number_11 rfl (by decide) (by decide) (fun h => absurd h (by decide)) (fun _ => ?_)
      refine j_aload_n 0 15 dX8_number_14 rfl rfl ?_
      refine j_bipush 17 dX8_number_15 rfl (by decide) ?_
      refine j_bipush 19 dX8_number_17 rfl (by decide) ?_
      refine j_callVi 0 [0, 1, 2] 22 [_, _, _] (c_X8_isAt E _ _ _ _ _ _ _ _ _ _ _ _ _ _ _ _ (by omega) (by omega) (by assumption) (by omega) (by omega)) rfl kX8_number_X8_isAt rfl rfl rfl rfl rfl rfl rfl (Nat.le_of_ble_eq_true rfl) (by decide) dX8_number_19 rfl ?_
      have q1 : (q < n ∧ 48 ≤ x q ∧ x q ≤ 57 ∧ (if q < n ∧ (48 ≤ x q ∧ x q ≤ 57) then (1 : Int) else 0) = 1) ∨ (¬ (q < n ∧ 48 ≤ x q ∧ x q ≤ 57) ∧ (if q < n ∧ (48 ≤ x q ∧ x q ≤ 57) then (1 : Int) else 0) = 0) := by split <;> omega
      refine j_if_eq 135 25 dX8_number_22 rfl (by decide) (by omega) (fun h_22 => ?_) (fun h_22 => ?_)
      · skip
        refine j_perm [0, 1, 2, 3, 4, 5] rfl ?_
        rw [if_neg (by omega)] at he
        exact key135 q v d he (by omega) (by omega)
      · skip
        refine j_bipush 27 dX8_number_25 rfl (by decide) ?_
        refine j_iload 4 29 dX8_number_27 rfl rfl ?_
        refine j_imul 30 dX8_number_29 rfl ?_
        refine j_aload_n 0 31 dX8_number_30 rfl rfl ?_
        refine j_get 0 6 1 34 in_X8_number_X8 dX8_number_31 rfl rfl rfl (by decide) rfl rfl ?_
        refine j_aload_n 0 35 dX8_number_34 rfl rfl ?_
        refine j_get 0 8 2 38 in_X8_number_X8 dX8_number_35 rfl rfl rfl (by decide) rfl rfl ?_
        refine j_iald 1 39 dX8_number_38 rfl rfl (by decide) (by omega) ?_
        refine j_iadd 40 dX8_number_39 rfl ?_
        refine j_bipush 42 dX8_number_40 rfl (by decide) ?_
        refine j_isub 43 dX8_number_42 rfl ?_
        rw [show (10 : Int) * v + x q - 48 = v * 10 + (x q - 48) by omega]
        have hl := ldF_01 (v * 10 + (x q - 48)) lo hi
        have hl2 : (v * 10 + (x q - 48) = 0 ∧ (lo = 0 ∧ ldF (v * 10 + (x q - 48)) lo hi = 1 ∨ lo ≠ 0 ∧ ldF (v * 10 + (x q - 48)) lo hi = 0)) ∨ (v * 10 + (x q - 48) ≠ 0 ∧ ldF (v * 10 + (x q - 48)) lo hi = bgF 3 (v * 10 + (x q - 48)) (v * 10 + (x q - 48)) lo hi) := by
          unfold ldF
          (repeat' split) <;> omega
        refine j_istore 45 [_, _, _, _, _, _, _, _] dX8_number_43 rfl (by decide) rfl ?_
        refine j_iload 6 47 dX8_number_45 rfl rfl ?_
        refine j_if_eq 55 50 dX8_number_47 rfl (by decide) (by omega) (fun h_47 => ?_) (fun h_47 => ?_)
        · skip
          refine j_iload 0 57 dX8_number_55 rfl rfl ?_
          refine j_if_ne 67 60 dX8_number_57 rfl (by decide) (by omega) (fun h_57 => ?_) (fun h_57 => ?_)
          · skip
            refine j_iload 0 69 dX8_number_67 rfl rfl ?_
            refine j_iload_n 3 70 dX8_number_69 rfl rfl ?_
            refine j_iload_n 4 71 dX8_number_70 rfl rfl ?_
            refine j_callSi [] 74 [_, _, _] (c_X8_begins E _ _ _ (by omega) (by omega) (by omega)) rfl kX8_number_X8_begins rfl rfl rfl rfl rfl (Nat.le_of_ble_eq_true rfl) (by decide) dX8_number_71 rfl ?_
            refine j_if_eq 81 77 dX8_number_74 rfl (by decide) (by omega) (fun h_74 => ?_) (fun h_74 => ?_)
            · skip
              refine j_iconst 82 dX8_number_81 rfl ?_
              refine j_istore 84 [_, _, _, _, _, _, _, _] dX8_number_82 rfl (by decide) rfl ?_
              refine j_iload 0 86 dX8_number_84 rfl rfl ?_
              refine j_if_eq 94 89 dX8_number_86 rfl (by decide) (by decide) (fun _ => ?_) (fun h => absurd h (by decide))
              refine j_iload 6 96 dX8_number_94 rfl rfl ?_
              refine j_istore 98 [_, _, _, _, _, _, _, _] dX8_number_96 rfl (by decide) rfl ?_
              refine j_iload 7 100 dX8_number_98 rfl rfl ?_
              refine j_iload 1 102 dX8_number_100 rfl rfl ?_
              refine j_if_eq 109 105 dX8_number_102 rfl (by decide) (by decide) (fun _ => ?_) (fun h => absurd h (by decide))
              refine j_iconst 110 dX8_number_109 rfl ?_
              refine j_iadd 111 dX8_number_110 rfl ?_
              refine j_istore 113 [_, _, _, _, _, _, _, _] dX8_number_111 rfl (by decide) rfl ?_
              refine j_aload_n 4 114 dX8_number_113 rfl rfl ?_
              refine j_dup 115 dX8_number_114 rfl rfl ?_
              refine j_get 0 8 2 118 in_X8_number_X8 dX8_number_115 rfl rfl rfl (by decide) rfl rfl ?_
              refine j_iload 2 120 dX8_number_118 rfl rfl ?_
              refine j_if_eq 127 123 dX8_number_120 rfl (by decide) (by decide) (fun _ => ?_) (fun h => absurd h (by decide))
              refine j_iconst 128 dX8_number_127 rfl ?_
              refine j_iadd 129 dX8_number_128 rfl ?_
              refine j_put 0 8 2 132 [(_, .inr (_, [_, _, _, _, _, _, _, _, _, _, _])), _, _] tyX8 tyX8_ok nmX8 in_X8_number_X8 dX8_number_129 rfl rfl rfl (by decide) rfl rfl rfl rfl rfl (Nat.le_of_ble_eq_true rfl) rfl ?_
              refine j_goto 9 dX8_number_132 (by decide) ?_
              refine j_perm [4, 5, 6, 7, 1, 0, 2] rfl ?_
              first
                | (rw [if_pos (by omega)] at he; exact ih (q + 1) (v * 10 + (x q - 48)) (d + 1) (by omega) (by omega) (by have := ldF_le (s := v * 10 + (x q - 48)) (lo := lo) (hi := hi) (by omega) (by omega) (by omega); omega) (by omega) he)
                | (rw [if_neg (by omega)] at he
                   rw [Int.add_zero, Int.add_zero]
                   refine j_iload 6 11 dX8_number_9 rfl rfl ?_
                   refine j_if_eq 135 14 dX8_number_11 rfl (by decide) (by decide) (fun _ => ?_) (fun h => absurd rfl h)
                   refine j_perm [0, 1, 2, 3, 4, 5] rfl ?_
                   exact key135 q v d he (by omega) (by omega))
            · skip
              refine j_iconst 78 dX8_number_77 rfl ?_
              refine j_goto 82 dX8_number_78 (by decide) ?_
              refine j_istore 84 [_, _, _, _, _, _, _, _] dX8_number_82 rfl (by decide) rfl ?_
              refine j_iload 0 86 dX8_number_84 rfl rfl ?_
              refine j_if_eq 94 89 dX8_number_86 rfl (by decide) (by decide) (fun h => absurd h (by decide)) (fun _ => ?_)
              refine j_iload 1 91 dX8_number_89 rfl rfl ?_
              refine j_goto 96 dX8_number_91 (by decide) ?_
              refine j_istore 98 [_, _, _, _, _, _, _, _] dX8_number_96 rfl (by decide) rfl ?_
              refine j_iload 7 100 dX8_number_98 rfl rfl ?_
              refine j_iload 1 102 dX8_number_100 rfl rfl ?_
              refine j_if_eq 109 105 dX8_number_102 rfl (by decide) (by decide) (fun h => absurd h (by decide)) (fun _ => ?_)
              refine j_iconst 106 dX8_number_105 rfl ?_
              refine j_goto 110 dX8_number_106 (by decide) ?_
              refine j_iadd 111 dX8_number_110 rfl ?_
              refine j_istore 113 [_, _, _, _, _, _, _, _] dX8_number_111 rfl (by decide) rfl ?_
              refine j_aload_n 4 114 dX8_number_113 rfl rfl ?_
              refine j_dup 115 dX8_number_114 rfl rfl ?_
              refine j_get 0 8 2 118 in_X8_number_X8 dX8_number_115 rfl rfl rfl (by decide) rfl rfl ?_
              refine j_iload 2 120 dX8_number_118 rfl rfl ?_
              refine j_if_eq 127 123 dX8_number_120 rfl (by decide) (by decide) (fun h => absurd h (by decide)) (fun _ => ?_)
              refine j_iconst 124 dX8_number_123 rfl ?_
              refine j_goto 128 dX8_number_124 (by decide) ?_
              refine j_iadd 129 dX8_number_128 rfl ?_
              refine j_put 0 8 2 132 [(_, .inr (_, [_, _, _, _, _, _, _, _, _, _, _])), _, _] tyX8 tyX8_ok nmX8 in_X8_number_X8 dX8_number_129 rfl rfl rfl (by decide) rfl rfl rfl rfl rfl (Nat.le_of_ble_eq_true rfl) rfl ?_
              refine j_goto 9 dX8_number_132 (by decide) ?_
              refine j_perm [4, 5, 6, 7, 1, 0, 2] rfl ?_
              first
                | (rw [if_pos (by omega)] at he; exact ih (q + 1) (v * 10 + (x q - 48)) (d + 1) (by omega) (by omega) (by have := ldF_le (s := v * 10 + (x q - 48)) (lo := lo) (hi := hi) (by omega) (by omega) (by omega); omega) (by omega) he)
                | (rw [if_neg (by omega)] at he
                   rw [Int.add_zero, Int.add_zero]
                   refine j_iload 6 11 dX8_number_9 rfl rfl ?_
                   refine j_if_eq 135 14 dX8_number_11 rfl (by decide) (by decide) (fun _ => ?_) (fun h => absurd rfl h)
                   refine j_perm [0, 1, 2, 3, 4, 5] rfl ?_
                   exact key135 q v d he (by omega) (by omega))
          · skip
            refine j_iload_n 3 61 dX8_number_60 rfl rfl ?_
            refine j_if_ne 81 64 dX8_number_61 rfl (by decide) (by omega) (fun h_61 => ?_) (fun h_61 => ?_)
            · skip
              refine j_iconst 82 dX8_number_81 rfl ?_
              refine j_istore 84 [_, _, _, _, _, _, _, _] dX8_number_82 rfl (by decide) rfl ?_
              refine j_iload 0 86 dX8_number_84 rfl rfl ?_
              refine j_if_eq 94 89 dX8_number_86 rfl (by decide) (by decide) (fun _ => ?_) (fun h => absurd h (by decide))
              refine j_iload 6 96 dX8_number_94 rfl rfl ?_
              refine j_istore 98 [_, _, _, _, _, _, _, _] dX8_number_96 rfl (by decide) rfl ?_
              refine j_iload 7 100 dX8_number_98 rfl rfl ?_
              refine j_iload 1 102 dX8_number_100 rfl rfl ?_
              refine j_if_eq 109 105 dX8_number_102 rfl (by decide) (by decide) (fun _ => ?_) (fun h => absurd h (by decide))
              refine j_iconst 110 dX8_number_109 rfl ?_
              refine j_iadd 111 dX8_number_110 rfl ?_
              refine j_istore 113 [_, _, _, _, _, _, _, _] dX8_number_111 rfl (by decide) rfl ?_
              refine j_aload_n 4 114 dX8_number_113 rfl rfl ?_
              refine j_dup 115 dX8_number_114 rfl rfl ?_
              refine j_get 0 8 2 118 in_X8_number_X8 dX8_number_115 rfl rfl rfl (by decide) rfl rfl ?_
              refine j_iload 2 120 dX8_number_118 rfl rfl ?_
              refine j_if_eq 127 123 dX8_number_120 rfl (by decide) (by decide) (fun _ => ?_) (fun h => absurd h (by decide))
              refine j_iconst 128 dX8_number_127 rfl ?_
              refine j_iadd 129 dX8_number_128 rfl ?_
              refine j_put 0 8 2 132 [(_, .inr (_, [_, _, _, _, _, _, _, _, _, _, _])), _, _] tyX8 tyX8_ok nmX8 in_X8_number_X8 dX8_number_129 rfl rfl rfl (by decide) rfl rfl rfl rfl rfl (Nat.le_of_ble_eq_true rfl) rfl ?_
              refine j_goto 9 dX8_number_132 (by decide) ?_
              refine j_perm [4, 5, 6, 7, 1, 0, 2] rfl ?_
              first
                | (rw [if_pos (by omega)] at he; exact ih (q + 1) (v * 10 + (x q - 48)) (d + 1) (by omega) (by omega) (by have := ldF_le (s := v * 10 + (x q - 48)) (lo := lo) (hi := hi) (by omega) (by omega) (by omega); omega) (by omega) he)
                | (rw [if_neg (by omega)] at he
                   rw [Int.add_zero, Int.add_zero]
                   refine j_iload 6 11 dX8_number_9 rfl rfl ?_
                   refine j_if_eq 135 14 dX8_number_11 rfl (by decide) (by decide) (fun _ => ?_) (fun h => absurd rfl h)
                   refine j_perm [0, 1, 2, 3, 4, 5] rfl ?_
                   exact key135 q v d he (by omega) (by omega))
            · skip
              refine j_goto 77 dX8_number_64 (by decide) ?_
              refine j_iconst 78 dX8_number_77 rfl ?_
              refine j_goto 82 dX8_number_78 (by decide) ?_
              refine j_istore 84 [_, _, _, _, _, _, _, _] dX8_number_82 rfl (by decide) rfl ?_
              refine j_iload 0 86 dX8_number_84 rfl rfl ?_
              refine j_if_eq 94 89 dX8_number_86 rfl (by decide) (by decide) (fun h => absurd h (by decide)) (fun _ => ?_)
              refine j_iload 1 91 dX8_number_89 rfl rfl ?_
              refine j_goto 96 dX8_number_91 (by decide) ?_
              refine j_istore 98 [_, _, _, _, _, _, _, _] dX8_number_96 rfl (by decide) rfl ?_
              refine j_iload 7 100 dX8_number_98 rfl rfl ?_
              refine j_iload 1 102 dX8_number_100 rfl rfl ?_
              refine j_if_eq 109 105 dX8_number_102 rfl (by decide) (by decide) (fun h => absurd h (by decide)) (fun _ => ?_)
              refine j_iconst 106 dX8_number_105 rfl ?_
              refine j_goto 110 dX8_number_106 (by decide) ?_
              refine j_iadd 111 dX8_number_110 rfl ?_
              refine j_istore 113 [_, _, _, _, _, _, _, _] dX8_number_111 rfl (by decide) rfl ?_
              refine j_aload_n 4 114 dX8_number_113 rfl rfl ?_
              refine j_dup 115 dX8_number_114 rfl rfl ?_
              refine j_get 0 8 2 118 in_X8_number_X8 dX8_number_115 rfl rfl rfl (by decide) rfl rfl ?_
              refine j_iload 2 120 dX8_number_118 rfl rfl ?_
              refine j_if_eq 127 123 dX8_number_120 rfl (by decide) (by decide) (fun h => absurd h (by decide)) (fun _ => ?_)
              refine j_iconst 124 dX8_number_123 rfl ?_
              refine j_goto 128 dX8_number_124 (by decide) ?_
              refine j_iadd 129 dX8_number_128 rfl ?_
              refine j_put 0 8 2 132 [(_, .inr (_, [_, _, _, _, _, _, _, _, _, _, _])), _, _] tyX8 tyX8_ok nmX8 in_X8_number_X8 dX8_number_129 rfl rfl rfl (by decide) rfl rfl rfl rfl rfl (Nat.le_of_ble_eq_true rfl) rfl ?_
              refine j_goto 9 dX8_number_132 (by decide) ?_
              refine j_perm [4, 5, 6, 7, 1, 0, 2] rfl ?_
              first
                | (rw [if_pos (by omega)] at he; exact ih (q + 1) (v * 10 + (x q - 48)) (d + 1) (by omega) (by omega) (by have := ldF_le (s := v * 10 + (x q - 48)) (lo := lo) (hi := hi) (by omega) (by omega) (by omega); omega) (by omega) he)
                | (rw [if_neg (by omega)] at he
                   rw [Int.add_zero, Int.add_zero]
                   refine j_iload 6 11 dX8_number_9 rfl rfl ?_
                   refine j_if_eq 135 14 dX8_number_11 rfl (by decide) (by decide) (fun _ => ?_) (fun h => absurd rfl h)
                   refine j_perm [0, 1, 2, 3, 4, 5] rfl ?_
                   exact key135 q v d he (by omega) (by omega))
        · skip
          refine j_iload 5 52 dX8_number_50 rfl rfl ?_
          refine j_if_le 81 55 dX8_number_52 rfl (by decide) (by omega) (fun h_52 => ?_) (fun h_52 => ?_)
          · skip
            refine j_iconst 82 dX8_number_81 rfl ?_
            refine j_istore 84 [_, _, _, _, _, _, _, _] dX8_number_82 rfl (by decide) rfl ?_
            refine j_iload 0 86 dX8_number_84 rfl rfl ?_
            refine j_if_eq 94 89 dX8_number_86 rfl (by decide) (by decide) (fun _ => ?_) (fun h => absurd h (by decide))
            refine j_iload 6 96 dX8_number_94 rfl rfl ?_
            refine j_istore 98 [_, _, _, _, _, _, _, _] dX8_number_96 rfl (by decide) rfl ?_
            refine j_iload 7 100 dX8_number_98 rfl rfl ?_
            refine j_iload 1 102 dX8_number_100 rfl rfl ?_
            refine j_if_eq 109 105 dX8_number_102 rfl (by decide) (by decide) (fun _ => ?_) (fun h => absurd h (by decide))
            refine j_iconst 110 dX8_number_109 rfl ?_
            refine j_iadd 111 dX8_number_110 rfl ?_
            refine j_istore 113 [_, _, _, _, _, _, _, _] dX8_number_111 rfl (by decide) rfl ?_
            refine j_aload_n 4 114 dX8_number_113 rfl rfl ?_
            refine j_dup 115 dX8_number_114 rfl rfl ?_
            refine j_get 0 8 2 118 in_X8_number_X8 dX8_number_115 rfl rfl rfl (by decide) rfl rfl ?_
            refine j_iload 2 120 dX8_number_118 rfl rfl ?_
            refine j_if_eq 127 123 dX8_number_120 rfl (by decide) (by decide) (fun _ => ?_) (fun h => absurd h (by decide))
            refine j_iconst 128 dX8_number_127 rfl ?_
            refine j_iadd 129 dX8_number_128 rfl ?_
            refine j_put 0 8 2 132 [(_, .inr (_, [_, _, _, _, _, _, _, _, _, _, _])), _, _] tyX8 tyX8_ok nmX8 in_X8_number_X8 dX8_number_129 rfl rfl rfl (by decide) rfl rfl rfl rfl rfl (Nat.le_of_ble_eq_true rfl) rfl ?_
            refine j_goto 9 dX8_number_132 (by decide) ?_
            refine j_perm [4, 5, 6, 7, 1, 0, 2] rfl ?_
            first
              | (rw [if_pos (by omega)] at he; exact ih (q + 1) (v * 10 + (x q - 48)) (d + 1) (by omega) (by omega) (by have := ldF_le (s := v * 10 + (x q - 48)) (lo := lo) (hi := hi) (by omega) (by omega) (by omega); omega) (by omega) he)
              | (rw [if_neg (by omega)] at he
                 rw [Int.add_zero, Int.add_zero]
                 refine j_iload 6 11 dX8_number_9 rfl rfl ?_
                 refine j_if_eq 135 14 dX8_number_11 rfl (by decide) (by decide) (fun _ => ?_) (fun h => absurd rfl h)
                 refine j_perm [0, 1, 2, 3, 4, 5] rfl ?_
                 exact key135 q v d he (by omega) (by omega))
          · skip
            refine j_iload 0 57 dX8_number_55 rfl rfl ?_
            refine j_if_ne 67 60 dX8_number_57 rfl (by decide) (by omega) (fun h_57 => ?_) (fun h_57 => ?_)
            · skip
              refine j_iload 0 69 dX8_number_67 rfl rfl ?_
              refine j_iload_n 3 70 dX8_number_69 rfl rfl ?_
              refine j_iload_n 4 71 dX8_number_70 rfl rfl ?_
              refine j_callSi [] 74 [_, _, _] (c_X8_begins E _ _ _ (by omega) (by omega) (by omega)) rfl kX8_number_X8_begins rfl rfl rfl rfl rfl (Nat.le_of_ble_eq_true rfl) (by decide) dX8_number_71 rfl ?_
              refine j_if_eq 81 77 dX8_number_74 rfl (by decide) (by omega) (fun h_74 => ?_) (fun h_74 => ?_)
              · skip
                refine j_iconst 82 dX8_number_81 rfl ?_
                refine j_istore 84 [_, _, _, _, _, _, _, _] dX8_number_82 rfl (by decide) rfl ?_
                refine j_iload 0 86 dX8_number_84 rfl rfl ?_
                refine j_if_eq 94 89 dX8_number_86 rfl (by decide) (by decide) (fun _ => ?_) (fun h => absurd h (by decide))
                refine j_iload 6 96 dX8_number_94 rfl rfl ?_
                refine j_istore 98 [_, _, _, _, _, _, _, _] dX8_number_96 rfl (by decide) rfl ?_
                refine j_iload 7 100 dX8_number_98 rfl rfl ?_
                refine j_iload 1 102 dX8_number_100 rfl rfl ?_
                refine j_if_eq 109 105 dX8_number_102 rfl (by decide) (by decide) (fun _ => ?_) (fun h => absurd h (by decide))
                refine j_iconst 110 dX8_number_109 rfl ?_
                refine j_iadd 111 dX8_number_110 rfl ?_
                refine j_istore 113 [_, _, _, _, _, _, _, _] dX8_number_111 rfl (by decide) rfl ?_
                refine j_aload_n 4 114 dX8_number_113 rfl rfl ?_
                refine j_dup 115 dX8_number_114 rfl rfl ?_
                refine j_get 0 8 2 118 in_X8_number_X8 dX8_number_115 rfl rfl rfl (by decide) rfl rfl ?_
                refine j_iload 2 120 dX8_number_118 rfl rfl ?_
                refine j_if_eq 127 123 dX8_number_120 rfl (by decide) (by decide) (fun _ => ?_) (fun h => absurd h (by decide))
                refine j_iconst 128 dX8_number_127 rfl ?_
                refine j_iadd 129 dX8_number_128 rfl ?_
                refine j_put 0 8 2 132 [(_, .inr (_, [_, _, _, _, _, _, _, _, _, _, _])), _, _] tyX8 tyX8_ok nmX8 in_X8_number_X8 dX8_number_129 rfl rfl rfl (by decide) rfl rfl rfl rfl rfl (Nat.le_of_ble_eq_true rfl) rfl ?_
                refine j_goto 9 dX8_number_132 (by decide) ?_
                refine j_perm [4, 5, 6, 7, 1, 0, 2] rfl ?_
                first
                  | (rw [if_pos (by omega)] at he; exact ih (q + 1) (v * 10 + (x q - 48)) (d + 1) (by omega) (by omega) (by have := ldF_le (s := v * 10 + (x q - 48)) (lo := lo) (hi := hi) (by omega) (by omega) (by omega); omega) (by omega) he)
                  | (rw [if_neg (by omega)] at he
                     rw [Int.add_zero, Int.add_zero]
                     refine j_iload 6 11 dX8_number_9 rfl rfl ?_
                     refine j_if_eq 135 14 dX8_number_11 rfl (by decide) (by decide) (fun _ => ?_) (fun h => absurd rfl h)
                     refine j_perm [0, 1, 2, 3, 4, 5] rfl ?_
                     exact key135 q v d he (by omega) (by omega))
              · skip
                refine j_iconst 78 dX8_number_77 rfl ?_
                refine j_goto 82 dX8_number_78 (by decide) ?_
                refine j_istore 84 [_, _, _, _, _, _, _, _] dX8_number_82 rfl (by decide) rfl ?_
                refine j_iload 0 86 dX8_number_84 rfl rfl ?_
                refine j_if_eq 94 89 dX8_number_86 rfl (by decide) (by decide) (fun h => absurd h (by decide)) (fun _ => ?_)
                refine j_iload 1 91 dX8_number_89 rfl rfl ?_
                refine j_goto 96 dX8_number_91 (by decide) ?_
                refine j_istore 98 [_, _, _, _, _, _, _, _] dX8_number_96 rfl (by decide) rfl ?_
                refine j_iload 7 100 dX8_number_98 rfl rfl ?_
                refine j_iload 1 102 dX8_number_100 rfl rfl ?_
                refine j_if_eq 109 105 dX8_number_102 rfl (by decide) (by decide) (fun h => absurd h (by decide)) (fun _ => ?_)
                refine j_iconst 106 dX8_number_105 rfl ?_
                refine j_goto 110 dX8_number_106 (by decide) ?_
                refine j_iadd 111 dX8_number_110 rfl ?_
                refine j_istore 113 [_, _, _, _, _, _, _, _] dX8_number_111 rfl (by decide) rfl ?_
                refine j_aload_n 4 114 dX8_number_113 rfl rfl ?_
                refine j_dup 115 dX8_number_114 rfl rfl ?_
                refine j_get 0 8 2 118 in_X8_number_X8 dX8_number_115 rfl rfl rfl (by decide) rfl rfl ?_
                refine j_iload 2 120 dX8_number_118 rfl rfl ?_
                refine j_if_eq 127 123 dX8_number_120 rfl (by decide) (by decide) (fun h => absurd h (by decide)) (fun _ => ?_)
                refine j_iconst 124 dX8_number_123 rfl ?_
                refine j_goto 128 dX8_number_124 (by decide) ?_
                refine j_iadd 129 dX8_number_128 rfl ?_
                refine j_put 0 8 2 132 [(_, .inr (_, [_, _, _, _, _, _, _, _, _, _, _])), _, _] tyX8 tyX8_ok nmX8 in_X8_number_X8 dX8_number_129 rfl rfl rfl (by decide) rfl rfl rfl rfl rfl (Nat.le_of_ble_eq_true rfl) rfl ?_
                refine j_goto 9 dX8_number_132 (by decide) ?_
                refine j_perm [4, 5, 6, 7, 1, 0, 2] rfl ?_
                first
                  | (rw [if_pos (by omega)] at he; exact ih (q + 1) (v * 10 + (x q - 48)) (d + 1) (by omega) (by omega) (by have := ldF_le (s := v * 10 + (x q - 48)) (lo := lo) (hi := hi) (by omega) (by omega) (by omega); omega) (by omega) he)
                  | (rw [if_neg (by omega)] at he
                     rw [Int.add_zero, Int.add_zero]
                     refine j_iload 6 11 dX8_number_9 rfl rfl ?_
                     refine j_if_eq 135 14 dX8_number_11 rfl (by decide) (by decide) (fun _ => ?_) (fun h => absurd rfl h)
                     refine j_perm [0, 1, 2, 3, 4, 5] rfl ?_
                     exact key135 q v d he (by omega) (by omega))
            · skip
              refine j_iload_n 3 61 dX8_number_60 rfl rfl ?_
              refine j_if_ne 81 64 dX8_number_61 rfl (by decide) (by omega) (fun h_61 => ?_) (fun h_61 => ?_)
              · skip
                refine j_iconst 82 dX8_number_81 rfl ?_
                refine j_istore 84 [_, _, _, _, _, _, _, _] dX8_number_82 rfl (by decide) rfl ?_
                refine j_iload 0 86 dX8_number_84 rfl rfl ?_
                refine j_if_eq 94 89 dX8_number_86 rfl (by decide) (by decide) (fun _ => ?_) (fun h => absurd h (by decide))
                refine j_iload 6 96 dX8_number_94 rfl rfl ?_
                refine j_istore 98 [_, _, _, _, _, _, _, _] dX8_number_96 rfl (by decide) rfl ?_
                refine j_iload 7 100 dX8_number_98 rfl rfl ?_
                refine j_iload 1 102 dX8_number_100 rfl rfl ?_
                refine j_if_eq 109 105 dX8_number_102 rfl (by decide) (by decide) (fun _ => ?_) (fun h => absurd h (by decide))
                refine j_iconst 110 dX8_number_109 rfl ?_
                refine j_iadd 111 dX8_number_110 rfl ?_
                refine j_istore 113 [_, _, _, _, _, _, _, _] dX8_number_111 rfl (by decide) rfl ?_
                refine j_aload_n 4 114 dX8_number_113 rfl rfl ?_
                refine j_dup 115 dX8_number_114 rfl rfl ?_
                refine j_get 0 8 2 118 in_X8_number_X8 dX8_number_115 rfl rfl rfl (by decide) rfl rfl ?_
                refine j_iload 2 120 dX8_number_118 rfl rfl ?_
                refine j_if_eq 127 123 dX8_number_120 rfl (by decide) (by decide) (fun _ => ?_) (fun h => absurd h (by decide))
                refine j_iconst 128 dX8_number_127 rfl ?_
                refine j_iadd 129 dX8_number_128 rfl ?_
                refine j_put 0 8 2 132 [(_, .inr (_, [_, _, _, _, _, _, _, _, _, _, _])), _, _] tyX8 tyX8_ok nmX8 in_X8_number_X8 dX8_number_129 rfl rfl rfl (by decide) rfl rfl rfl rfl rfl (Nat.le_of_ble_eq_true rfl) rfl ?_
                refine j_goto 9 dX8_number_132 (by decide) ?_
                refine j_perm [4, 5, 6, 7, 1, 0, 2] rfl ?_
                first
                  | (rw [if_pos (by omega)] at he; exact ih (q + 1) (v * 10 + (x q - 48)) (d + 1) (by omega) (by omega) (by have := ldF_le (s := v * 10 + (x q - 48)) (lo := lo) (hi := hi) (by omega) (by omega) (by omega); omega) (by omega) he)
                  | (rw [if_neg (by omega)] at he
                     rw [Int.add_zero, Int.add_zero]
                     refine j_iload 6 11 dX8_number_9 rfl rfl ?_
                     refine j_if_eq 135 14 dX8_number_11 rfl (by decide) (by decide) (fun _ => ?_) (fun h => absurd rfl h)
                     refine j_perm [0, 1, 2, 3, 4, 5] rfl ?_
                     exact key135 q v d he (by omega) (by omega))
              · skip
                refine j_goto 77 dX8_number_64 (by decide) ?_
                refine j_iconst 78 dX8_number_77 rfl ?_
                refine j_goto 82 dX8_number_78 (by decide) ?_
                refine j_istore 84 [_, _, _, _, _, _, _, _] dX8_number_82 rfl (by decide) rfl ?_
                refine j_iload 0 86 dX8_number_84 rfl rfl ?_
                refine j_if_eq 94 89 dX8_number_86 rfl (by decide) (by decide) (fun h => absurd h (by decide)) (fun _ => ?_)
                refine j_iload 1 91 dX8_number_89 rfl rfl ?_
                refine j_goto 96 dX8_number_91 (by decide) ?_
                refine j_istore 98 [_, _, _, _, _, _, _, _] dX8_number_96 rfl (by decide) rfl ?_
                refine j_iload 7 100 dX8_number_98 rfl rfl ?_
                refine j_iload 1 102 dX8_number_100 rfl rfl ?_
                refine j_if_eq 109 105 dX8_number_102 rfl (by decide) (by decide) (fun h => absurd h (by decide)) (fun _ => ?_)
                refine j_iconst 106 dX8_number_105 rfl ?_
                refine j_goto 110 dX8_number_106 (by decide) ?_
                refine j_iadd 111 dX8_number_110 rfl ?_
                refine j_istore 113 [_, _, _, _, _, _, _, _] dX8_number_111 rfl (by decide) rfl ?_
                refine j_aload_n 4 114 dX8_number_113 rfl rfl ?_
                refine j_dup 115 dX8_number_114 rfl rfl ?_
                refine j_get 0 8 2 118 in_X8_number_X8 dX8_number_115 rfl rfl rfl (by decide) rfl rfl ?_
                refine j_iload 2 120 dX8_number_118 rfl rfl ?_
                refine j_if_eq 127 123 dX8_number_120 rfl (by decide) (by decide) (fun h => absurd h (by decide)) (fun _ => ?_)
                refine j_iconst 124 dX8_number_123 rfl ?_
                refine j_goto 128 dX8_number_124 (by decide) ?_
                refine j_iadd 129 dX8_number_128 rfl ?_
                refine j_put 0 8 2 132 [(_, .inr (_, [_, _, _, _, _, _, _, _, _, _, _])), _, _] tyX8 tyX8_ok nmX8 in_X8_number_X8 dX8_number_129 rfl rfl rfl (by decide) rfl rfl rfl rfl rfl (Nat.le_of_ble_eq_true rfl) rfl ?_
                refine j_goto 9 dX8_number_132 (by decide) ?_
                refine j_perm [4, 5, 6, 7, 1, 0, 2] rfl ?_
                first
                  | (rw [if_pos (by omega)] at he; exact ih (q + 1) (v * 10 + (x q - 48)) (d + 1) (by omega) (by omega) (by have := ldF_le (s := v * 10 + (x q - 48)) (lo := lo) (hi := hi) (by omega) (by omega) (by omega); omega) (by omega) he)
                  | (rw [if_neg (by omega)] at he
                     rw [Int.add_zero, Int.add_zero]
                     refine j_iload 6 11 dX8_number_9 rfl rfl ?_
                     refine j_if_eq 135 14 dX8_number_11 rfl (by decide) (by decide) (fun _ => ?_) (fun h => absurd rfl h)
                     refine j_perm [0, 1, 2, 3, 4, 5] rfl ?_
                     exact key135 q v d he (by omega) (by omega))
  refine j_perm [3, 4, 5, 6, 2, 1, 0] rfl ?_
  exact key9 61 p 0 0 (by omega) (by omega) (by omega) (by omega) hT
theorem kX8_threes_X8_sign : jKv mX8_threes 119 yX8_sign wsX8_sign rmX8_sign 1 := ⟨gX8_threes_X8_sign, ⟨_, _, _, _, rfl, by decide⟩, by decide +kernel, rfl, rfl, by decide⟩
theorem kX8_threes_X8_number : jKv mX8_threes 122 yX8_number wsX8_number rmX8_number 3 := ⟨gX8_threes_X8_number, ⟨_, _, _, _, rfl, by decide⟩, by decide +kernel, rfl, rfl, by decide⟩
set_option maxRecDepth 100000 in
set_option maxHeartbeats 4000000 in
theorem c_X8_threes (E : jE) (o i0 i1 i2 i3 i4 i5 : Nat) (k0 k1 n p m : Int) (x r : Int → Int)  (hn : 0 ≤ n ∧ n ≤ 60) (hp : 0 ≤ p ∧ p ≤ n) (hx : ∀ i, 0 ≤ x i ∧ x i < 1000) (hm : 0 ≤ m ∧ 2 * m ≤ p) : jMI E yX8_threes wsX8_threes rmX8_threes [.ref o] (wMr E o i0 i1 i2 i3 i4 i5 k0 k1 (n) (p) (m) x (r)) ((thR x n m p r).1) (wMr E o i0 i1 i2 i3 i4 i5 k0 k1 (n) ((thR x n m p r).2.1) (m) x ((thR x n m p r).2.2)) := by
  refine jMI_of (cc := cX8_threes) (maxL := 1) (ret := (some .boolean)) [(0, .ref o)] (by decide) rfl rfl (Nat.le_of_ble_eq_true rfl) (fun C => ?_)
  show jG mX8_threes E C (jQi E C ((thR x n m p r).1) (wMr E o i0 i1 i2 i3 i4 i5 k0 k1 (n) ((thR x n m p r).2.1) (m) x ((thR x n m p r).2.2))) 0 0 0 [(0, .ref o)] [] (wMr E o i0 i1 i2 i3 i4 i5 k0 k1 (n) (p) (m) x (r))
  refine j_aload_n 0 1 dX8_threes_0 rfl rfl ?_
  refine j_bipush 3 dX8_threes_1 rfl (by decide) ?_
  refine j_callVi 0 [0, 1, 2] 6 [_, _, _] (c_X8_sign E _ _ _ _ _ _ _ _ _ _ _ _ _ _ _ (by omega) (by omega) (by assumption) (by omega)) rfl kX8_threes_X8_sign rfl rfl rfl rfl rfl rfl rfl (Nat.le_of_ble_eq_true rfl) (by decide) dX8_threes_3 rfl ?_
  refine j_if_eq 66 9 dX8_threes_6 rfl (by decide) (by have := tkP_01 x n 119 p; omega) (fun h_6 => ?_) (fun h_6 => ?_)
  · skip
    rw [thR, if_pos h_6, h_6, Int.add_zero]
    refine j_iconst 67 dX8_threes_66 rfl ?_
    exact j_zret dX8_threes_67 rfl (by first | rfl | (show (0 : Int) = nmZ x n 0 9 (p3 + 1); omega) | (show (1 : Int) = nmZ x n 0 9 (p3 + 1); omega)) (by omega) (by rfl)
  · skip
    have g1 := tkP_1 h_6
    rw [g1.1, thR, if_neg h_6]
    have r1 := nm_rng (x := x) (n := n) (lo := 50) (hi := 300) (p := p + 1) (by omega) (by omega)
    have z1 := nmZ_01 x n 50 300 (p + 1)
    refine j_aload_n 0 10 dX8_threes_9 rfl rfl ?_
    refine j_iconst 11 dX8_threes_10 rfl ?_
    refine j_bipush 13 dX8_threes_11 rfl (by decide) ?_
    refine j_sipush 16 dX8_threes_13 rfl (by decide) ?_
    refine j_callVi 0 [0, 1, 2] 19 [_, _, _] (c_X8_number E _ _ _ _ _ _ _ _ _ _ _ _ _ _ _ _ _ (by omega) (by omega) (by assumption) (by omega) (by omega) (by omega) (by omega)) rfl kX8_threes_X8_number rfl rfl rfl rfl rfl rfl rfl (Nat.le_of_ble_eq_true rfl) (by decide) dX8_threes_16 rfl ?_
    refine j_if_eq 66 22 dX8_threes_19 rfl (by decide) (by omega) (fun h_19 => ?_) (fun h_19 => ?_)
    · skip
      rw [if_pos (by omega)]
      refine j_iconst 67 dX8_threes_66 rfl ?_
      exact j_zret dX8_threes_67 rfl (by first | rfl | (show (0 : Int) = nmZ x n 0 9 (p3 + 1); omega) | (show (1 : Int) = nmZ x n 0 9 (p3 + 1); omega)) (by omega) (by rfl)
    · skip
      rw [if_neg h_19, thR2]
      generalize nmP x n 50 300 (p + 1) = p2 at r1 ⊢
      refine j_aload_n 0 23 dX8_threes_22 rfl rfl ?_
      refine j_bipush 25 dX8_threes_23 rfl (by decide) ?_
      refine j_callVi 0 [0, 1, 2] 28 [_, _, _] (c_X8_sign E _ _ _ _ _ _ _ _ _ _ _ _ _ _ _ (by omega) (by omega) (by assumption) (by omega)) rfl kX8_threes_X8_sign rfl rfl rfl rfl rfl rfl rfl (Nat.le_of_ble_eq_true rfl) (by decide) dX8_threes_25 rfl ?_
      refine j_if_eq 66 31 dX8_threes_28 rfl (by decide) (by have := tkP_01 x n 114 p2; omega) (fun h_28 => ?_) (fun h_28 => ?_)
      · skip
        rw [if_pos h_28, h_28, Int.add_zero]
        refine j_iconst 67 dX8_threes_66 rfl ?_
        exact j_zret dX8_threes_67 rfl (by first | rfl | (show (0 : Int) = nmZ x n 0 9 (p3 + 1); omega) | (show (1 : Int) = nmZ x n 0 9 (p3 + 1); omega)) (by omega) (by rfl)
      · skip
        have g2 := tkP_1 h_28
        rw [if_neg h_28, g2.1]
        have r2 := nm_rng (x := x) (n := n) (lo := 0) (hi := 100) (p := p2 + 1) (by omega) (by omega)
        have z2 := nmZ_01 x n 0 100 (p2 + 1)
        refine j_aload_n 0 32 dX8_threes_31 rfl rfl ?_
        refine j_iconst 33 dX8_threes_32 rfl ?_
        refine j_iconst 34 dX8_threes_33 rfl ?_
        refine j_bipush 36 dX8_threes_34 rfl (by decide) ?_
        refine j_callVi 0 [0, 1, 2] 39 [_, _, _] (c_X8_number E _ _ _ _ _ _ _ _ _ _ _ _ _ _ _ _ _ (by omega) (by omega) (by assumption) (by omega) (by omega) (by omega) (by omega)) rfl kX8_threes_X8_number rfl rfl rfl rfl rfl rfl rfl (Nat.le_of_ble_eq_true rfl) (by decide) dX8_threes_36 rfl ?_
        refine j_if_eq 66 42 dX8_threes_39 rfl (by decide) (by omega) (fun h_39 => ?_) (fun h_39 => ?_)
        · skip
          rw [if_pos (by omega)]
          refine j_iconst 67 dX8_threes_66 rfl ?_
          exact j_zret dX8_threes_67 rfl (by first | rfl | (show (0 : Int) = nmZ x n 0 9 (p3 + 1); omega) | (show (1 : Int) = nmZ x n 0 9 (p3 + 1); omega)) (by omega) (by rfl)
        · skip
          rw [if_neg h_39, thR3]
          generalize nmP x n 0 100 (p2 + 1) = p3 at r2 ⊢
          refine j_aload_n 0 43 dX8_threes_42 rfl rfl ?_
          refine j_bipush 45 dX8_threes_43 rfl (by decide) ?_
          refine j_callVi 0 [0, 1, 2] 48 [_, _, _] (c_X8_sign E _ _ _ _ _ _ _ _ _ _ _ _ _ _ _ (by omega) (by omega) (by assumption) (by omega)) rfl kX8_threes_X8_sign rfl rfl rfl rfl rfl rfl rfl (Nat.le_of_ble_eq_true rfl) (by decide) dX8_threes_45 rfl ?_
          refine j_if_eq 66 51 dX8_threes_48 rfl (by decide) (by have := tkP_01 x n 98 p3; omega) (fun h_48 => ?_) (fun h_48 => ?_)
          · skip
            rw [if_pos h_48, h_48, Int.add_zero]
            refine j_iconst 67 dX8_threes_66 rfl ?_
            exact j_zret dX8_threes_67 rfl (by first | rfl | (show (0 : Int) = nmZ x n 0 9 (p3 + 1); omega) | (show (1 : Int) = nmZ x n 0 9 (p3 + 1); omega)) (by omega) (by rfl)
          · skip
            have g3 := tkP_1 h_48
            rw [if_neg h_48, g3.1]
            have r3 := nm_rng (x := x) (n := n) (lo := 0) (hi := 9) (p := p3 + 1) (by omega) (by omega)
            have z3 := nmZ_01 x n 0 9 (p3 + 1)
            refine j_aload_n 0 52 dX8_threes_51 rfl rfl ?_
            refine j_iconst 53 dX8_threes_52 rfl ?_
            refine j_iconst 54 dX8_threes_53 rfl ?_
            refine j_bipush 56 dX8_threes_54 rfl (by decide) ?_
            refine j_callVi 0 [0, 1, 2] 59 [_, _, _] (c_X8_number E _ _ _ _ _ _ _ _ _ _ _ _ _ _ _ _ _ (by omega) (by omega) (by assumption) (by omega) (by omega) (by omega) (by omega)) rfl kX8_threes_X8_number rfl rfl rfl rfl rfl rfl rfl (Nat.le_of_ble_eq_true rfl) (by decide) dX8_threes_56 rfl ?_
            refine j_if_eq 66 62 dX8_threes_59 rfl (by decide) (by omega) (fun h_59 => ?_) (fun h_59 => ?_)
            · skip
              refine j_iconst 67 dX8_threes_66 rfl ?_
              exact j_zret dX8_threes_67 rfl (by first | rfl | (show (0 : Int) = nmZ x n 0 9 (p3 + 1); omega) | (show (1 : Int) = nmZ x n 0 9 (p3 + 1); omega)) (by omega) (by rfl)
            · skip
              refine j_iconst 63 dX8_threes_62 rfl ?_
              refine j_goto 67 dX8_threes_63 (by decide) ?_
              exact j_zret dX8_threes_67 rfl (by first | rfl | (show (0 : Int) = nmZ x n 0 9 (p3 + 1); omega) | (show (1 : Int) = nmZ x n 0 9 (p3 + 1); omega)) (by omega) (by rfl)
theorem kX8_part_X8_isAt : jKv mX8_part 109 yX8_isAt wsX8_isAt rmX8_isAt 2 := ⟨gX8_part_X8_isAt, ⟨_, _, _, _, rfl, by decide⟩, by decide +kernel, rfl, rfl, by decide⟩
set_option maxRecDepth 20000 in
theorem in_X8_part_X8 : ∀ x ∈ u_ws RX8 TX8 11, x ∈ wsX8_part := by decide +kernel
theorem kX8_part_X8_threes : jKv mX8_part 125 yX8_threes wsX8_threes rmX8_threes 0 := ⟨gX8_part_X8_threes, ⟨_, _, _, _, rfl, by decide⟩, by decide +kernel, rfl, rfl, by decide⟩
set_option maxRecDepth 100000 in
set_option maxHeartbeats 4000000 in
theorem c_X8_part (E : jE) (o i0 i1 i2 i3 i4 i5 : Nat) (k0 k1 n p m : Int) (x r : Int → Int) (s : Int) (hn : 0 ≤ n ∧ n ≤ 60) (hp : 0 ≤ p ∧ p ≤ n) (hx : ∀ i, 0 ≤ x i ∧ x i < 1000) (hm : 0 ≤ m ∧ 2 * m ≤ p) (hs : 0 ≤ s ∧ s ≤ 2) : jMI E yX8_part wsX8_part rmX8_part [.ref o, .int (jI (kS s))] (wMr E o i0 i1 i2 i3 i4 i5 k0 k1 (n) (p) (m) x (r)) ((paR x n m s p r).1) (wMr E o i0 i1 i2 i3 i4 i5 k0 k1 (n) ((paR x n m s p r).2.1) (m) x ((paR x n m s p r).2.2)) := by
  refine jMI_of (cc := cX8_part) (maxL := 2) (ret := (some .boolean)) [(0, .ref o), (1, .int (jI (kS s)))] (by decide) rfl rfl (Nat.le_of_ble_eq_true rfl) (fun C => ?_)
  show jG mX8_part E C (jQi E C ((paR x n m s p r).1) (wMr E o i0 i1 i2 i3 i4 i5 k0 k1 (n) ((paR x n m s p r).2.1) (m) x ((paR x n m s p r).2.2))) 0 0 0 [(0, .ref o), (1, .int (jI (kS s)))] [] (wMr E o i0 i1 i2 i3 i4 i5 k0 k1 (n) (p) (m) x (r))
  have kb : (s = 1 ∧ kS s = 119) ∨ (s ≠ 1 ∧ kS s ≠ 119 ∧ 0 ≤ kS s ∧ kS s ≤ 120) := by unfold kS; (repeat' split) <;> omega
  have e120 : (if p < n ∧ (120 ≤ x p ∧ x p ≤ 120) then (1 : Int) else 0) = tkP x n 120 p := by unfold tkP; (repeat' split) <;> omega
  have e38 : (if p < n ∧ (38 ≤ x p ∧ x p ≤ 38) then (1 : Int) else 0) = tkP x n 38 p := by unfold tkP; (repeat' split) <;> omega
  have t1 := tkP_01 x n 120 p
  have t2 := tkP_01 x n 38 p
  have kk := kd3 (x := x) (n := n) (b := s) hp.2
  refine j_aload_n 0 1 dX8_part_0 rfl rfl ?_
  refine j_bipush 3 dX8_part_1 rfl (by decide) ?_
  refine j_bipush 5 dX8_part_3 rfl (by decide) ?_
  refine j_callVi 0 [0, 1, 2] 8 [_, _, _] (c_X8_isAt E _ _ _ _ _ _ _ _ _ _ _ _ _ _ _ _ (by omega) (by omega) (by assumption) (by omega) (by omega)) rfl kX8_part_X8_isAt rfl rfl rfl rfl rfl rfl rfl (Nat.le_of_ble_eq_true rfl) (by decide) dX8_part_5 rfl ?_
  rw [e120]
  refine j_if_ne 28 11 dX8_part_8 rfl (by decide) (by omega) (fun h_8 => ?_) (fun h_8 => ?_)
  · skip
    have ex : x p = 120 := (tkP_1 h_8).2.2
    have pn := (tkP_1 h_8).2.1
    have e : paR x n m s p r = (1, p + 1, jU r (5 * m) 120) := by unfold paR; rw [if_neg (by omega), if_pos (by omega)]
    rw [e]
    refine j_aload_n 0 29 dX8_part_28 rfl rfl ?_
    refine j_get 0 10 1 32 in_X8_part_X8 dX8_part_29 rfl rfl rfl (by decide) rfl rfl ?_
    refine j_iconst 33 dX8_part_32 rfl ?_
    refine j_aload_n 0 34 dX8_part_33 rfl rfl ?_
    refine j_get 0 9 2 37 in_X8_part_X8 dX8_part_34 rfl rfl rfl (by decide) rfl rfl ?_
    refine j_imul 38 dX8_part_37 rfl ?_
    refine j_aload_n 0 39 dX8_part_38 rfl rfl ?_
    refine j_get 0 6 3 42 in_X8_part_X8 dX8_part_39 rfl rfl rfl (by decide) rfl rfl ?_
    refine j_aload_n 0 43 dX8_part_42 rfl rfl ?_
    refine j_get 0 8 4 46 in_X8_part_X8 dX8_part_43 rfl rfl rfl (by decide) rfl rfl ?_
    refine j_iald 1 47 dX8_part_46 rfl rfl (by decide) (by omega) ?_
    rw [ex]
    refine j_iast 2 48 [_, _, _] dX8_part_47 rfl rfl (by decide) (by omega) rfl ?_
    refine j_aload_n 0 49 dX8_part_48 rfl rfl ?_
    refine j_dup 50 dX8_part_49 rfl rfl ?_
    refine j_get 0 8 4 53 in_X8_part_X8 dX8_part_50 rfl rfl rfl (by decide) rfl rfl ?_
    refine j_iconst 54 dX8_part_53 rfl ?_
    refine j_iadd 55 dX8_part_54 rfl ?_
    refine j_put 0 8 4 58 [(_, .inr (_, [_, _, _, _, _, _, _, _, _, _, _])), _, _] tyX8 tyX8_ok nmX8 in_X8_part_X8 dX8_part_55 rfl rfl rfl (by decide) rfl rfl rfl rfl rfl (Nat.le_of_ble_eq_true rfl) rfl ?_
    refine j_aload_n 0 59 dX8_part_58 rfl rfl ?_
    refine j_get 0 10 1 62 in_X8_part_X8 dX8_part_59 rfl rfl rfl (by decide) rfl rfl ?_
    refine j_iconst 63 dX8_part_62 rfl ?_
    refine j_aload_n 0 64 dX8_part_63 rfl rfl ?_
    refine j_get 0 9 2 67 in_X8_part_X8 dX8_part_64 rfl rfl rfl (by decide) rfl rfl ?_
    refine j_imul 68 dX8_part_67 rfl ?_
    refine j_iald 2 69 dX8_part_68 rfl rfl (by decide) (by omega) ?_
    rw [jU_at]
    refine j_bipush 71 dX8_part_69 rfl (by decide) ?_
    refine j_icmp_eq 81 74 dX8_part_71 rfl (by decide) (by omega) (by omega) (fun h_71 => ?_) (fun h_71 => ?_)
    · skip
      refine j_iconst 82 dX8_part_81 rfl ?_
      refine j_goto 86 dX8_part_82 (by decide) ?_
      exact j_zret dX8_part_86 rfl (by first | rfl | omega) (by omega) (by first | rfl | exact absurd rfl h_71 | exact absurd h_71 (by decide))
    · skip
      refine j_aload_n 0 75 dX8_part_74 rfl rfl ?_
      refine j_callVi 0 [0, 1, 2] 78 [_, _, _] (c_X8_threes E _ _ _ _ _ _ _ _ _ _ _ _ _ _ (by omega) (by omega) (by assumption) (by omega)) rfl kX8_part_X8_threes rfl rfl rfl rfl rfl rfl rfl (Nat.le_of_ble_eq_true rfl) (by decide) dX8_part_75 rfl ?_
      refine j_if_eq 85 81 dX8_part_78 rfl (by decide) (by omega) (fun h_78 => ?_) (fun h_78 => ?_)
      · skip
        refine j_iconst 86 dX8_part_85 rfl ?_
        exact j_zret dX8_part_86 rfl (by first | rfl | omega) (by omega) (by first | rfl | exact absurd rfl h_71 | exact absurd h_71 (by decide))
      · skip
        refine j_iconst 82 dX8_part_81 rfl ?_
        refine j_goto 86 dX8_part_82 (by decide) ?_
        exact j_zret dX8_part_86 rfl (by first | rfl | omega) (by omega) (by first | rfl | exact absurd rfl h_71 | exact absurd h_71 (by decide))
  · skip
    refine j_iload_n 1 12 dX8_part_11 rfl rfl ?_
    refine j_bipush 14 dX8_part_12 rfl (by decide) ?_
    refine j_icmp_ne 87 17 dX8_part_14 rfl (by decide) (by omega) (by omega) (fun h_14 => ?_) (fun h_14 => ?_)
    · skip
      have e : paR x n m s p r = thR x n m p (jU r (5 * m) 119) := by unfold paR; rw [if_pos (by omega)]
      rw [e]
      refine j_aload_n 0 88 dX8_part_87 rfl rfl ?_
      refine j_get 0 10 1 91 in_X8_part_X8 dX8_part_88 rfl rfl rfl (by decide) rfl rfl ?_
      refine j_iconst 92 dX8_part_91 rfl ?_
      refine j_aload_n 0 93 dX8_part_92 rfl rfl ?_
      refine j_get 0 9 2 96 in_X8_part_X8 dX8_part_93 rfl rfl rfl (by decide) rfl rfl ?_
      refine j_imul 97 dX8_part_96 rfl ?_
      refine j_bipush 99 dX8_part_97 rfl (by decide) ?_
      refine j_iast 2 100 [_, _, _] dX8_part_99 rfl rfl (by decide) (by omega) rfl ?_
      have tt := thR_rng (x := x) (n := n) (m := m) (p := p) (r := jU r (5 * m) 119) (by omega)
      refine j_aload_n 0 101 dX8_part_100 rfl rfl ?_
      refine j_callVi 0 [0, 1, 2] 104 [_, _, _] (c_X8_threes E _ _ _ _ _ _ _ _ _ _ _ _ _ _ (by omega) (by omega) (by assumption) (by omega)) rfl kX8_part_X8_threes rfl rfl rfl rfl rfl rfl rfl (Nat.le_of_ble_eq_true rfl) (by decide) dX8_part_101 rfl ?_
      exact j_zret dX8_part_104 rfl (by rfl) (by omega) (by first | rfl | exact absurd rfl h_71 | exact absurd h_71 (by decide))
    · skip
      refine j_aload_n 0 18 dX8_part_17 rfl rfl ?_
      refine j_bipush 20 dX8_part_18 rfl (by decide) ?_
      refine j_bipush 22 dX8_part_20 rfl (by decide) ?_
      refine j_callVi 0 [0, 1, 2] 25 [_, _, _] (c_X8_isAt E _ _ _ _ _ _ _ _ _ _ _ _ _ _ _ _ (by omega) (by omega) (by assumption) (by omega) (by omega)) rfl kX8_part_X8_isAt rfl rfl rfl rfl rfl rfl rfl (Nat.le_of_ble_eq_true rfl) (by decide) dX8_part_22 rfl ?_
      rw [e38]
      refine j_if_eq 87 28 dX8_part_25 rfl (by decide) (by omega) (fun h_25 => ?_) (fun h_25 => ?_)
      · skip
        have e : paR x n m s p r = thR x n m p (jU r (5 * m) 119) := by unfold paR; rw [if_pos (by omega)]
        rw [e]
        refine j_aload_n 0 88 dX8_part_87 rfl rfl ?_
        refine j_get 0 10 1 91 in_X8_part_X8 dX8_part_88 rfl rfl rfl (by decide) rfl rfl ?_
        refine j_iconst 92 dX8_part_91 rfl ?_
        refine j_aload_n 0 93 dX8_part_92 rfl rfl ?_
        refine j_get 0 9 2 96 in_X8_part_X8 dX8_part_93 rfl rfl rfl (by decide) rfl rfl ?_
        refine j_imul 97 dX8_part_96 rfl ?_
        refine j_bipush 99 dX8_part_97 rfl (by decide) ?_
        refine j_iast 2 100 [_, _, _] dX8_part_99 rfl rfl (by decide) (by omega) rfl ?_
        have tt := thR_rng (x := x) (n := n) (m := m) (p := p) (r := jU r (5 * m) 119) (by omega)
        refine j_aload_n 0 101 dX8_part_100 rfl rfl ?_
        refine j_callVi 0 [0, 1, 2] 104 [_, _, _] (c_X8_threes E _ _ _ _ _ _ _ _ _ _ _ _ _ _ (by omega) (by omega) (by assumption) (by omega)) rfl kX8_part_X8_threes rfl rfl rfl rfl rfl rfl rfl (Nat.le_of_ble_eq_true rfl) (by decide) dX8_part_101 rfl ?_
        exact j_zret dX8_part_104 rfl (by rfl) (by omega) (by first | rfl | exact absurd rfl h_71 | exact absurd h_71 (by decide))
      · skip
        have ex : x p = 38 := (tkP_1 h_25).2.2
        have pn := (tkP_1 h_25).2.1
        have e : paR x n m s p r = thR x n m (p + 1) (jU r (5 * m) 38) := by unfold paR; rw [if_neg (by omega), if_neg (by omega)]
        rw [e]
        have tt := thR_rng (x := x) (n := n) (m := m) (p := p + 1) (r := jU r (5 * m) 38) (by omega)
        refine j_aload_n 0 29 dX8_part_28 rfl rfl ?_
        refine j_get 0 10 1 32 in_X8_part_X8 dX8_part_29 rfl rfl rfl (by decide) rfl rfl ?_
        refine j_iconst 33 dX8_part_32 rfl ?_
        refine j_aload_n 0 34 dX8_part_33 rfl rfl ?_
        refine j_get 0 9 2 37 in_X8_part_X8 dX8_part_34 rfl rfl rfl (by decide) rfl rfl ?_
        refine j_imul 38 dX8_part_37 rfl ?_
        refine j_aload_n 0 39 dX8_part_38 rfl rfl ?_
        refine j_get 0 6 3 42 in_X8_part_X8 dX8_part_39 rfl rfl rfl (by decide) rfl rfl ?_
        refine j_aload_n 0 43 dX8_part_42 rfl rfl ?_
        refine j_get 0 8 4 46 in_X8_part_X8 dX8_part_43 rfl rfl rfl (by decide) rfl rfl ?_
        refine j_iald 1 47 dX8_part_46 rfl rfl (by decide) (by omega) ?_
        rw [ex]
        refine j_iast 2 48 [_, _, _] dX8_part_47 rfl rfl (by decide) (by omega) rfl ?_
        refine j_aload_n 0 49 dX8_part_48 rfl rfl ?_
        refine j_dup 50 dX8_part_49 rfl rfl ?_
        refine j_get 0 8 4 53 in_X8_part_X8 dX8_part_50 rfl rfl rfl (by decide) rfl rfl ?_
        refine j_iconst 54 dX8_part_53 rfl ?_
        refine j_iadd 55 dX8_part_54 rfl ?_
        refine j_put 0 8 4 58 [(_, .inr (_, [_, _, _, _, _, _, _, _, _, _, _])), _, _] tyX8 tyX8_ok nmX8 in_X8_part_X8 dX8_part_55 rfl rfl rfl (by decide) rfl rfl rfl rfl rfl (Nat.le_of_ble_eq_true rfl) rfl ?_
        refine j_aload_n 0 59 dX8_part_58 rfl rfl ?_
        refine j_get 0 10 1 62 in_X8_part_X8 dX8_part_59 rfl rfl rfl (by decide) rfl rfl ?_
        refine j_iconst 63 dX8_part_62 rfl ?_
        refine j_aload_n 0 64 dX8_part_63 rfl rfl ?_
        refine j_get 0 9 2 67 in_X8_part_X8 dX8_part_64 rfl rfl rfl (by decide) rfl rfl ?_
        refine j_imul 68 dX8_part_67 rfl ?_
        refine j_iald 2 69 dX8_part_68 rfl rfl (by decide) (by omega) ?_
        rw [jU_at]
        refine j_bipush 71 dX8_part_69 rfl (by decide) ?_
        refine j_icmp_eq 81 74 dX8_part_71 rfl (by decide) (by omega) (by omega) (fun h_71 => ?_) (fun h_71 => ?_)
        · skip
          refine j_iconst 82 dX8_part_81 rfl ?_
          refine j_goto 86 dX8_part_82 (by decide) ?_
          exact j_zret dX8_part_86 rfl (by first | rfl | omega) (by omega) (by first | rfl | exact absurd rfl h_71 | exact absurd h_71 (by decide))
        · skip
          refine j_aload_n 0 75 dX8_part_74 rfl rfl ?_
          refine j_callVi 0 [0, 1, 2] 78 [_, _, _] (c_X8_threes E _ _ _ _ _ _ _ _ _ _ _ _ _ _ (by omega) (by omega) (by assumption) (by omega)) rfl kX8_part_X8_threes rfl rfl rfl rfl rfl rfl rfl (Nat.le_of_ble_eq_true rfl) (by decide) dX8_part_75 rfl ?_
          refine j_if_eq 85 81 dX8_part_78 rfl (by decide) (by omega) (fun h_78 => ?_) (fun h_78 => ?_)
          · skip
            refine j_iconst 86 dX8_part_85 rfl ?_
            exact j_zret dX8_part_86 rfl (by first | rfl | omega) (by omega) (by first | rfl | exact absurd rfl h_71 | exact absurd h_71 (by decide))
          · skip
            refine j_iconst 82 dX8_part_81 rfl ?_
            refine j_goto 86 dX8_part_82 (by decide) ?_
            exact j_zret dX8_part_86 rfl (by first | rfl | omega) (by omega) (by first | rfl | exact absurd rfl h_71 | exact absurd h_71 (by decide))
theorem kX8_ruled_X8_threes : jKv mX8_ruled 125 yX8_threes wsX8_threes rmX8_threes 0 := ⟨gX8_ruled_X8_threes, ⟨_, _, _, _, rfl, by decide⟩, by decide +kernel, rfl, rfl, by decide⟩
theorem kX8_ruled_X8_sign : jKv mX8_ruled 119 yX8_sign wsX8_sign rmX8_sign 1 := ⟨gX8_ruled_X8_sign, ⟨_, _, _, _, rfl, by decide⟩, by decide +kernel, rfl, rfl, by decide⟩
theorem kX8_ruled_X8_number : jKv mX8_ruled 122 yX8_number wsX8_number rmX8_number 3 := ⟨gX8_ruled_X8_number, ⟨_, _, _, _, rfl, by decide⟩, by decide +kernel, rfl, rfl, by decide⟩
set_option maxRecDepth 100000 in
set_option maxHeartbeats 4000000 in
theorem c_X8_ruled (E : jE) (o i0 i1 i2 i3 i4 i5 : Nat) (k0 k1 n p m : Int) (x r : Int → Int)  (hn : 0 ≤ n ∧ n ≤ 60) (hp : 0 ≤ p ∧ p ≤ n) (hx : ∀ i, 0 ≤ x i ∧ x i < 1000) (hm : 0 ≤ m ∧ 2 * m ≤ p) : jMI E yX8_ruled wsX8_ruled rmX8_ruled [.ref o] (wMr E o i0 i1 i2 i3 i4 i5 k0 k1 (n) (p) (m) x (r)) ((ruR x n m p r).1) (wMr E o i0 i1 i2 i3 i4 i5 k0 k1 (n) ((ruR x n m p r).2.1) (m) x ((ruR x n m p r).2.2)) := by
  refine jMI_of (cc := cX8_ruled) (maxL := 1) (ret := (some .boolean)) [(0, .ref o)] (by decide) rfl rfl (Nat.le_of_ble_eq_true rfl) (fun C => ?_)
  show jG mX8_ruled E C (jQi E C ((ruR x n m p r).1) (wMr E o i0 i1 i2 i3 i4 i5 k0 k1 (n) ((ruR x n m p r).2.1) (m) x ((ruR x n m p r).2.2))) 0 0 0 [(0, .ref o)] [] (wMr E o i0 i1 i2 i3 i4 i5 k0 k1 (n) (p) (m) x (r))
  have tt := thR_rng (x := x) (n := n) (m := m) (p := p) (r := r) hp.2
  refine j_aload_n 0 1 dX8_ruled_0 rfl rfl ?_
  refine j_callVi 0 [0, 1, 2] 4 [_, _, _] (c_X8_threes E _ _ _ _ _ _ _ _ _ _ _ _ _ _ (by omega) (by omega) (by assumption) (by omega)) rfl kX8_ruled_X8_threes rfl rfl rfl rfl rfl rfl rfl (Nat.le_of_ble_eq_true rfl) (by decide) dX8_ruled_1 rfl ?_
  refine j_if_eq 30 7 dX8_ruled_4 rfl (by decide) (by omega) (fun h_4 => ?_) (fun h_4 => ?_)
  · skip
    have e : ruR x n m p r = thR x n m p r := if_pos h_4
    rw [e]
    refine j_iconst 31 dX8_ruled_30 rfl ?_
    exact j_zret dX8_ruled_31 rfl (by first | (rw [h_4]) | rfl | (show (0 : Int) = nmZ x n 0 3 ((thR x n m p r).2.1 + 1); omega) | (show (1 : Int) = nmZ x n 0 3 ((thR x n m p r).2.1 + 1); omega)) (by omega) (by rfl)
  · skip
    have e : ruR x n m p r = if tkP x n 62 (thR x n m p r).2.1 = 0 then (0, (thR x n m p r).2) else (nmZ x n 0 3 ((thR x n m p r).2.1 + 1), nmP x n 0 3 ((thR x n m p r).2.1 + 1), jU (thR x n m p r).2.2 (5 * m + 4) (nmV x n 0 3 ((thR x n m p r).2.1 + 1))) := if_neg h_4
    rw [e]
    have t1 := tkP_01 x n 62 (thR x n m p r).2.1
    refine j_aload_n 0 8 dX8_ruled_7 rfl rfl ?_
    refine j_bipush 10 dX8_ruled_8 rfl (by decide) ?_
    refine j_callVi 0 [0, 1, 2] 13 [_, _, _] (c_X8_sign E _ _ _ _ _ _ _ _ _ _ _ _ _ _ _ (by omega) (by omega) (by assumption) (by omega)) rfl kX8_ruled_X8_sign rfl rfl rfl rfl rfl rfl rfl (Nat.le_of_ble_eq_true rfl) (by decide) dX8_ruled_10 rfl ?_
    refine j_if_eq 30 16 dX8_ruled_13 rfl (by decide) (by omega) (fun h_13 => ?_) (fun h_13 => ?_)
    · skip
      rw [if_pos h_13, h_13, Int.add_zero]
      refine j_iconst 31 dX8_ruled_30 rfl ?_
      exact j_zret dX8_ruled_31 rfl (by first | (rw [h_4]) | rfl | (show (0 : Int) = nmZ x n 0 3 ((thR x n m p r).2.1 + 1); omega) | (show (1 : Int) = nmZ x n 0 3 ((thR x n m p r).2.1 + 1); omega)) (by omega) (by rfl)
    · skip
      have g := tkP_1 h_13
      rw [if_neg h_13, g.1]
      have z1 := nmZ_01 x n 0 3 ((thR x n m p r).2.1 + 1)
      refine j_aload_n 0 17 dX8_ruled_16 rfl rfl ?_
      refine j_iconst 18 dX8_ruled_17 rfl ?_
      refine j_iconst 19 dX8_ruled_18 rfl ?_
      refine j_iconst 20 dX8_ruled_19 rfl ?_
      refine j_callVi 0 [0, 1, 2] 23 [_, _, _] (c_X8_number E _ _ _ _ _ _ _ _ _ _ _ _ _ _ _ _ _ (by omega) (by omega) (by assumption) (by omega) (by omega) (by omega) (by omega)) rfl kX8_ruled_X8_number rfl rfl rfl rfl rfl rfl rfl (Nat.le_of_ble_eq_true rfl) (by decide) dX8_ruled_20 rfl ?_
      refine j_if_eq 30 26 dX8_ruled_23 rfl (by decide) (by omega) (fun h_23 => ?_) (fun h_23 => ?_)
      · skip
        refine j_iconst 31 dX8_ruled_30 rfl ?_
        exact j_zret dX8_ruled_31 rfl (by first | (rw [h_4]) | rfl | (show (0 : Int) = nmZ x n 0 3 ((thR x n m p r).2.1 + 1); omega) | (show (1 : Int) = nmZ x n 0 3 ((thR x n m p r).2.1 + 1); omega)) (by omega) (by rfl)
      · skip
        refine j_iconst 27 dX8_ruled_26 rfl ?_
        refine j_goto 31 dX8_ruled_27 (by decide) ?_
        exact j_zret dX8_ruled_31 rfl (by first | (rw [h_4]) | rfl | (show (0 : Int) = nmZ x n 0 3 ((thR x n m p r).2.1 + 1); omega) | (show (1 : Int) = nmZ x n 0 3 ((thR x n m p r).2.1 + 1); omega)) (by omega) (by rfl)
theorem kX8_fault_X8_in : jKs mX8_fault 32 yX8_in wsX8_in rmX8_in 3 := ⟨gX8_fault_X8_in, ⟨_, _, _, _, rfl, by decide⟩, by decide +kernel, rfl, rfl, by decide⟩
set_option maxRecDepth 20000 in
theorem in_X8_fault_X8 : ∀ x ∈ u_ws RX8 TX8 11, x ∈ wsX8_fault := by decide +kernel
theorem kX8_fault_X8_ruled : jKv mX8_fault 132 yX8_ruled wsX8_ruled rmX8_ruled 0 := ⟨gX8_fault_X8_ruled, ⟨_, _, _, _, rfl, by decide⟩, by decide +kernel, rfl, rfl, by decide⟩
theorem kX8_fault_X8_sign : jKv mX8_fault 119 yX8_sign wsX8_sign rmX8_sign 1 := ⟨gX8_fault_X8_sign, ⟨_, _, _, _, rfl, by decide⟩, by decide +kernel, rfl, rfl, by decide⟩
theorem kX8_fault_X8_part : jKv mX8_fault 129 yX8_part wsX8_part rmX8_part 1 := ⟨gX8_fault_X8_part, ⟨_, _, _, _, rfl, by decide⟩, by decide +kernel, rfl, rfl, by decide⟩
set_option maxRecDepth 100000 in
set_option maxHeartbeats 4000000 in
theorem c_X8_fault (E : jE) (o i0 i1 i2 i3 i4 i5 : Nat) (k0 k1 n p m : Int) (x r : Int → Int) (w : Int) (hn : 0 ≤ n ∧ n ≤ 60) (hx : ∀ i, 0 ≤ x i ∧ x i < 1000) (wb : -2147483648 ≤ w ∧ w < 2147483648) : jMI E yX8_fault wsX8_fault rmX8_fault [.ref o, .int (jI w)] (wMr E o i0 i1 i2 i3 i4 i5 k0 k1 (n) (p) (m) x (r)) ((fltM w x n p m r).1) (wMr E o i0 i1 i2 i3 i4 i5 k0 k1 n (fltM w x n p m r).2.1 (fltM w x n p m r).2.2.1 x (fltM w x n p m r).2.2.2) := by
  refine jMI_of (cc := cX8_fault) (maxL := 4) (ret := (some .int)) [(0, .ref o), (1, .int (jI w))] (by decide) rfl rfl (Nat.le_of_ble_eq_true rfl) (fun C => ?_)
  show jG mX8_fault E C (jQi E C ((fltM w x n p m r).1) (wMr E o i0 i1 i2 i3 i4 i5 k0 k1 n (fltM w x n p m r).2.1 (fltM w x n p m r).2.2.1 x (fltM w x n p m r).2.2.2)) 0 0 0 [(0, .ref o), (1, .int (jI w))] [] (wMr E o i0 i1 i2 i3 i4 i5 k0 k1 (n) (p) (m) x (r))
  have q1 : (0 ≤ w ∧ w ≤ 1 ∧ (if 0 ≤ w ∧ w ≤ 1 then (1 : Int) else 0) = 1) ∨ (¬ (0 ≤ w ∧ w ≤ 1) ∧ (if 0 ≤ w ∧ w ≤ 1 then (1 : Int) else 0) = 0) := by split <;> omega
  refine j_iload_n 1 1 dX8_fault_0 rfl rfl ?_
  refine j_iconst 2 dX8_fault_1 rfl ?_
  refine j_iconst 3 dX8_fault_2 rfl ?_
  refine j_callSi [] 6 [_, _, _] (c_X8_in E _ _ _ (by omega) (by omega) (by omega)) rfl kX8_fault_X8_in rfl rfl rfl rfl rfl (Nat.le_of_ble_eq_true rfl) (by decide) dX8_fault_3 rfl ?_
  refine j_if_ne 11 9 dX8_fault_6 rfl (by decide) (by omega) (fun h_6 => ?_) (fun h_6 => ?_)
  · skip
    have e0 : fltM w x n p m r = (if (fX w x n 60 0 0 0 r).1 = 0 then (fX w x n 60 0 0 0 r).2.1 else -4, (fX w x n 60 0 0 0 r).2) := if_neg (by omega)
    obtain ⟨T, hT⟩ : ∃ T, T = fX w x n 60 0 0 0 r := ⟨_, rfl⟩
    rw [e0, ← hT]
    refine j_aload_n 0 12 dX8_fault_11 rfl rfl ?_
    refine j_iconst 13 dX8_fault_12 rfl ?_
    refine j_put 0 8 1 16 [(_, .inr (_, [_, _, _, _, _, _, _, _, _, _, _])), _, _] tyX8 tyX8_ok nmX8 in_X8_fault_X8 dX8_fault_13 rfl rfl rfl (by decide) rfl rfl rfl rfl rfl (Nat.le_of_ble_eq_true rfl) rfl ?_
    refine j_aload_n 0 17 dX8_fault_16 rfl rfl ?_
    refine j_iconst 18 dX8_fault_17 rfl ?_
    refine j_put 0 9 2 21 [(_, .inr (_, [_, _, _, _, _, _, _, _, _, _, _])), _, _] tyX8 tyX8_ok nmX8 in_X8_fault_X8 dX8_fault_18 rfl rfl rfl (by decide) rfl rfl rfl rfl rfl (Nat.le_of_ble_eq_true rfl) rfl ?_
    refine j_iconst 22 dX8_fault_21 rfl ?_
    refine j_istore_n 23 [_, _, _] dX8_fault_22 rfl (by decide) rfl ?_
    have key100 : ∀ (q k z : Int) (s : Int → Int), T = (z, q, k, s) → (0 ≤ q ∧ q ≤ n) → (q = n → z = 1) → (q ≠ n → z = 0) → jG mX8_fault E C (jQi E C (((if T.1 = 0 then T.2.1 else -4, T.2) : Int × Int × Int × (Int → Int)).1) (wMr E o i0 i1 i2 i3 i4 i5 k0 k1 n ((if T.1 = 0 then T.2.1 else -4, T.2) : Int × Int × Int × (Int → Int)).2.1 ((if T.1 = 0 then T.2.1 else -4, T.2) : Int × Int × Int × (Int → Int)).2.2.1 x ((if T.1 = 0 then T.2.1 else -4, T.2) : Int × Int × Int × (Int → Int)).2.2.2)) 0 0 100 [(0, .ref o), (1, .int (jI w))] [] (wMr E o i0 i1 i2 i3 i4 i5 k0 k1 (n) (q) (k) x (s)) := by
      intro q k z s he h1 h2 h3
      rw [he]
      refine j_aload_n 0 101 dX8_fault_100 rfl rfl ?_
      refine j_get 0 8 1 104 in_X8_fault_X8 dX8_fault_101 rfl rfl rfl (by decide) rfl rfl ?_
      refine j_aload_n 0 105 dX8_fault_104 rfl rfl ?_
      refine j_get 0 7 4 108 in_X8_fault_X8 dX8_fault_105 rfl rfl rfl (by decide) rfl rfl ?_
      refine j_icmp_ne 116 111 dX8_fault_108 rfl (by decide) (by omega) (by omega) (fun h_108 => ?_) (fun h_108 => ?_)
      · skip
        rw [h3 (by omega)]
        refine j_aload_n 0 117 dX8_fault_116 rfl rfl ?_
        refine j_get 0 8 1 120 in_X8_fault_X8 dX8_fault_117 rfl rfl rfl (by decide) rfl rfl ?_
        exact j_iret dX8_fault_120 rfl (by rfl) (by rfl)
      · skip
        rw [h2 (by omega)]
        refine j_bipush 113 dX8_fault_111 rfl (by decide) ?_
        refine j_goto 120 dX8_fault_113 (by decide) ?_
        exact j_iret dX8_fault_120 rfl (by rfl) (by rfl)
    have key23 : ∀ (fu : Nat) (q k b : Int) (s : Int → Int), k + fu = 60 → (0 ≤ k ∧ 2 * k ≤ q) → q ≤ n → (0 ≤ b ∧ b ≤ 2) → (k = 0 → b = 0) → (w = 0 → 1 ≤ k → s (5 * k - 5) = kS b) → T = fX w x n fu q k b s → jG mX8_fault E C (jQi E C (((if T.1 = 0 then T.2.1 else -4, T.2) : Int × Int × Int × (Int → Int)).1) (wMr E o i0 i1 i2 i3 i4 i5 k0 k1 n ((if T.1 = 0 then T.2.1 else -4, T.2) : Int × Int × Int × (Int → Int)).2.1 ((if T.1 = 0 then T.2.1 else -4, T.2) : Int × Int × Int × (Int → Int)).2.2.1 x ((if T.1 = 0 then T.2.1 else -4, T.2) : Int × Int × Int × (Int → Int)).2.2.2)) 0 0 23 [(0, .ref o), (1, .int (jI w)), (2, .int (jI 1))] [] (wMr E o i0 i1 i2 i3 i4 i5 k0 k1 (n) (q) (k) x (s)) := by
      intro fu
      induction fu with
      | zero => intro q k b s h1 h2 h3 h4 h5 h6 he; exact absurd h1 (by omega)
      | succ fu ih =>
        intro q k b s h1 h2 h3 h4 h5 h6 he
        rw [fX] at he
        have kk := kd_rng (x := x) (n := n) (b := b) (p := q) h3
        refine j_iload_n 2 24 dX8_fault_23 rfl rfl ?_
        refine j_if_eq 100 27 dX8_fault_24 rfl (by decide) (by decide) (fun h => absurd h (by decide)) (fun _ => ?_)
        refine j_aload_n 0 28 dX8_fault_27 rfl rfl ?_
        refine j_get 0 9 2 31 in_X8_fault_X8 dX8_fault_28 rfl rfl rfl (by decide) rfl rfl ?_
        refine j_if_ne 39 34 dX8_fault_31 rfl (by decide) (by omega) (fun h_31 => ?_) (fun h_31 => ?_)
        · skip
          refine j_aload_n 0 40 dX8_fault_39 rfl rfl ?_
          refine j_get 0 10 3 43 in_X8_fault_X8 dX8_fault_40 rfl rfl rfl (by decide) rfl rfl ?_
          refine j_iconst 44 dX8_fault_43 rfl ?_
          refine j_aload_n 0 45 dX8_fault_44 rfl rfl ?_
          refine j_get 0 9 2 48 in_X8_fault_X8 dX8_fault_45 rfl rfl rfl (by decide) rfl rfl ?_
          refine j_imul 49 dX8_fault_48 rfl ?_
          refine j_iconst 50 dX8_fault_49 rfl ?_
          refine j_isub 51 dX8_fault_50 rfl ?_
          refine j_iald 2 52 dX8_fault_51 rfl rfl (by decide) (by omega) ?_
          refine j_istore_n 53 [_, _, _, _] dX8_fault_52 rfl (by decide) rfl ?_
          refine j_iload_n 2 54 dX8_fault_53 rfl rfl ?_
          refine j_if_ne 68 57 dX8_fault_54 rfl (by decide) (by omega) (fun h_54 => ?_) (fun h_54 => ?_)
          · skip
            have e1 : stX w x n k b q s = ruR x n k q s := if_neg h_54
            rw [e1] at he
            have st := ruR_rng (x := x) (n := n) (m := k) (p := q) (r := s) h3
            have pa : w = 0 → (ruR x n k q s).2.2 (5 * k) = kS (kdF x n b q) := fun h => absurd h h_54
            refine j_aload_n 1 69 dX8_fault_68 rfl rfl ?_
            refine j_callVi 0 [0, 1, 2] 72 [_, _, _] (c_X8_ruled E _ _ _ _ _ _ _ _ _ _ _ _ _ _ (by omega) (by omega) (by assumption) (by omega)) rfl kX8_fault_X8_ruled rfl rfl rfl rfl rfl rfl rfl (Nat.le_of_ble_eq_true rfl) (by decide) dX8_fault_69 rfl ?_
            refine j_if_ne 80 75 dX8_fault_72 rfl (by decide) (by omega) (fun h_72 => ?_) (fun h_72 => ?_)
            · skip
              generalize (ruR x n k q s).2.1 = q2 at he st ⊢
              generalize (ruR x n k q s).2.2 = s2 at he pa ⊢
              rw [if_neg (by omega)] at he
              refine j_aload_n 1 81 dX8_fault_80 rfl rfl ?_
              refine j_dup 82 dX8_fault_81 rfl rfl ?_
              refine j_get 0 9 2 85 in_X8_fault_X8 dX8_fault_82 rfl rfl rfl (by decide) rfl rfl ?_
              refine j_iconst 86 dX8_fault_85 rfl ?_
              refine j_iadd 87 dX8_fault_86 rfl ?_
              refine j_put 0 9 2 90 [(_, .inr (_, [_, _, _, _, _, _, _, _, _, _, _])), _, _] tyX8 tyX8_ok nmX8 in_X8_fault_X8 dX8_fault_87 rfl rfl rfl (by decide) rfl rfl rfl rfl rfl (Nat.le_of_ble_eq_true rfl) rfl ?_
              refine j_aload_n 1 91 dX8_fault_90 rfl rfl ?_
              refine j_bipush 93 dX8_fault_91 rfl (by decide) ?_
              refine j_callVi 0 [0, 1, 2] 96 [_, _, _] (c_X8_sign E _ _ _ _ _ _ _ _ _ _ _ _ _ _ _ (by omega) (by omega) (by assumption) (by omega)) rfl kX8_fault_X8_sign rfl rfl rfl rfl rfl rfl rfl (Nat.le_of_ble_eq_true rfl) (by decide) dX8_fault_93 rfl ?_
              refine j_istore_n 97 [_, _, _, _] dX8_fault_96 rfl (by decide) rfl ?_
              refine j_perm [2, 3, 0] rfl ?_
              refine j_goto 23 dX8_fault_97 (by decide) ?_
              rcases tkP_01 x n 44 q2 with hk | hk
              · rw [if_pos hk] at he
                rw [hk, Int.add_zero]
                refine j_iload_n 2 24 dX8_fault_23 rfl rfl ?_
                refine j_if_eq 100 27 dX8_fault_24 rfl (by decide) (by decide) (fun _ => ?_) (fun h => absurd rfl h)
                refine j_perm [0, 1] rfl ?_
                exact key100 q2 (k + 1) _ s2 he (by omega) (fun h => if_pos (by omega)) (fun h => if_neg (by omega))
              · have g := tkP_1 (x := x) (n := n) (c := 44) (p := q2) (by omega)
                rw [if_neg (by omega)] at he
                rw [hk]
                exact ih (q2 + 1) (k + 1) (kdF x n b q) s2 (by omega) (by omega) (by omega) (by omega) (fun h => absurd h (by omega)) (fun h _ => by rw [show 5 * (k + 1) - 5 = 5 * k by omega]; exact pa h) he
            · skip
              rw [if_pos h_72] at he
              rw [he]
              refine j_aload_n 1 76 dX8_fault_75 rfl rfl ?_
              refine j_get 0 8 1 79 in_X8_fault_X8 dX8_fault_76 rfl rfl rfl (by decide) rfl rfl ?_
              exact j_iret dX8_fault_79 rfl (by rfl) (by rfl)
          · skip
            have e1 : stX w x n k b q s = paR x n k b q s := if_pos h_54
            rw [e1] at he
            have st := paR_rng (x := x) (n := n) (m := k) (b := b) (p := q) (r := s) h3
            have pa : w = 0 → (paR x n k b q s).2.2 (5 * k) = kS (kdF x n b q) := fun _ => (paR_at (x := x) (n := n) (m := k) (b := b) (p := q) (r := s) h3).1
            refine j_aload_n 1 58 dX8_fault_57 rfl rfl ?_
            refine j_iload_n 0 59 dX8_fault_58 rfl rfl ?_
            first
              | rw [h6 h_54 (by omega)]
              | rw [show (120 : Int) = kS b by rw [h5 (by omega)]; rfl]
            refine j_callVi 0 [0, 1, 2] 62 [_, _, _] (c_X8_part E _ _ _ _ _ _ _ _ _ _ _ _ _ _ _ (by omega) (by omega) (by assumption) (by omega) (by omega)) rfl kX8_fault_X8_part rfl rfl rfl rfl rfl rfl rfl (Nat.le_of_ble_eq_true rfl) (by decide) dX8_fault_59 rfl ?_
            refine j_if_eq 75 65 dX8_fault_62 rfl (by decide) (by omega) (fun h_62 => ?_) (fun h_62 => ?_)
            · skip
              rw [if_pos h_62] at he
              rw [he]
              refine j_aload_n 1 76 dX8_fault_75 rfl rfl ?_
              refine j_get 0 8 1 79 in_X8_fault_X8 dX8_fault_76 rfl rfl rfl (by decide) rfl rfl ?_
              exact j_iret dX8_fault_79 rfl (by rfl) (by rfl)
            · skip
              generalize (paR x n k b q s).2.1 = q2 at he st ⊢
              generalize (paR x n k b q s).2.2 = s2 at he pa ⊢
              rw [if_neg (by omega)] at he
              refine j_goto 80 dX8_fault_65 (by decide) ?_
              refine j_aload_n 1 81 dX8_fault_80 rfl rfl ?_
              refine j_dup 82 dX8_fault_81 rfl rfl ?_
              refine j_get 0 9 2 85 in_X8_fault_X8 dX8_fault_82 rfl rfl rfl (by decide) rfl rfl ?_
              refine j_iconst 86 dX8_fault_85 rfl ?_
              refine j_iadd 87 dX8_fault_86 rfl ?_
              refine j_put 0 9 2 90 [(_, .inr (_, [_, _, _, _, _, _, _, _, _, _, _])), _, _] tyX8 tyX8_ok nmX8 in_X8_fault_X8 dX8_fault_87 rfl rfl rfl (by decide) rfl rfl rfl rfl rfl (Nat.le_of_ble_eq_true rfl) rfl ?_
              refine j_aload_n 1 91 dX8_fault_90 rfl rfl ?_
              refine j_bipush 93 dX8_fault_91 rfl (by decide) ?_
              refine j_callVi 0 [0, 1, 2] 96 [_, _, _] (c_X8_sign E _ _ _ _ _ _ _ _ _ _ _ _ _ _ _ (by omega) (by omega) (by assumption) (by omega)) rfl kX8_fault_X8_sign rfl rfl rfl rfl rfl rfl rfl (Nat.le_of_ble_eq_true rfl) (by decide) dX8_fault_93 rfl ?_
              refine j_istore_n 97 [_, _, _, _] dX8_fault_96 rfl (by decide) rfl ?_
              refine j_perm [2, 3, 0] rfl ?_
              refine j_goto 23 dX8_fault_97 (by decide) ?_
              rcases tkP_01 x n 44 q2 with hk | hk
              · rw [if_pos hk] at he
                rw [hk, Int.add_zero]
                refine j_iload_n 2 24 dX8_fault_23 rfl rfl ?_
                refine j_if_eq 100 27 dX8_fault_24 rfl (by decide) (by decide) (fun _ => ?_) (fun h => absurd rfl h)
                refine j_perm [0, 1] rfl ?_
                exact key100 q2 (k + 1) _ s2 he (by omega) (fun h => if_pos (by omega)) (fun h => if_neg (by omega))
              · have g := tkP_1 (x := x) (n := n) (c := 44) (p := q2) (by omega)
                rw [if_neg (by omega)] at he
                rw [hk]
                exact ih (q2 + 1) (k + 1) (kdF x n b q) s2 (by omega) (by omega) (by omega) (by omega) (fun h => absurd h (by omega)) (fun h _ => by rw [show 5 * (k + 1) - 5 = 5 * k by omega]; exact pa h) he
        · skip
          refine j_bipush 36 dX8_fault_34 rfl (by decide) ?_
          refine j_goto 52 dX8_fault_36 (by decide) ?_
          refine j_istore_n 53 [_, _, _, _] dX8_fault_52 rfl (by decide) rfl ?_
          refine j_iload_n 2 54 dX8_fault_53 rfl rfl ?_
          refine j_if_ne 68 57 dX8_fault_54 rfl (by decide) (by omega) (fun h_54 => ?_) (fun h_54 => ?_)
          · skip
            have e1 : stX w x n k b q s = ruR x n k q s := if_neg h_54
            rw [e1] at he
            have st := ruR_rng (x := x) (n := n) (m := k) (p := q) (r := s) h3
            have pa : w = 0 → (ruR x n k q s).2.2 (5 * k) = kS (kdF x n b q) := fun h => absurd h h_54
            refine j_aload_n 1 69 dX8_fault_68 rfl rfl ?_
            refine j_callVi 0 [0, 1, 2] 72 [_, _, _] (c_X8_ruled E _ _ _ _ _ _ _ _ _ _ _ _ _ _ (by omega) (by omega) (by assumption) (by omega)) rfl kX8_fault_X8_ruled rfl rfl rfl rfl rfl rfl rfl (Nat.le_of_ble_eq_true rfl) (by decide) dX8_fault_69 rfl ?_
            refine j_if_ne 80 75 dX8_fault_72 rfl (by decide) (by omega) (fun h_72 => ?_) (fun h_72 => ?_)
            · skip
              generalize (ruR x n k q s).2.1 = q2 at he st ⊢
              generalize (ruR x n k q s).2.2 = s2 at he pa ⊢
              rw [if_neg (by omega)] at he
              refine j_aload_n 1 81 dX8_fault_80 rfl rfl ?_
              refine j_dup 82 dX8_fault_81 rfl rfl ?_
              refine j_get 0 9 2 85 in_X8_fault_X8 dX8_fault_82 rfl rfl rfl (by decide) rfl rfl ?_
              refine j_iconst 86 dX8_fault_85 rfl ?_
              refine j_iadd 87 dX8_fault_86 rfl ?_
              refine j_put 0 9 2 90 [(_, .inr (_, [_, _, _, _, _, _, _, _, _, _, _])), _, _] tyX8 tyX8_ok nmX8 in_X8_fault_X8 dX8_fault_87 rfl rfl rfl (by decide) rfl rfl rfl rfl rfl (Nat.le_of_ble_eq_true rfl) rfl ?_
              refine j_aload_n 1 91 dX8_fault_90 rfl rfl ?_
              refine j_bipush 93 dX8_fault_91 rfl (by decide) ?_
              refine j_callVi 0 [0, 1, 2] 96 [_, _, _] (c_X8_sign E _ _ _ _ _ _ _ _ _ _ _ _ _ _ _ (by omega) (by omega) (by assumption) (by omega)) rfl kX8_fault_X8_sign rfl rfl rfl rfl rfl rfl rfl (Nat.le_of_ble_eq_true rfl) (by decide) dX8_fault_93 rfl ?_
              refine j_istore_n 97 [_, _, _, _] dX8_fault_96 rfl (by decide) rfl ?_
              refine j_perm [2, 3, 0] rfl ?_
              refine j_goto 23 dX8_fault_97 (by decide) ?_
              rcases tkP_01 x n 44 q2 with hk | hk
              · rw [if_pos hk] at he
                rw [hk, Int.add_zero]
                refine j_iload_n 2 24 dX8_fault_23 rfl rfl ?_
                refine j_if_eq 100 27 dX8_fault_24 rfl (by decide) (by decide) (fun _ => ?_) (fun h => absurd rfl h)
                refine j_perm [0, 1] rfl ?_
                exact key100 q2 (k + 1) _ s2 he (by omega) (fun h => if_pos (by omega)) (fun h => if_neg (by omega))
              · have g := tkP_1 (x := x) (n := n) (c := 44) (p := q2) (by omega)
                rw [if_neg (by omega)] at he
                rw [hk]
                exact ih (q2 + 1) (k + 1) (kdF x n b q) s2 (by omega) (by omega) (by omega) (by omega) (fun h => absurd h (by omega)) (fun h _ => by rw [show 5 * (k + 1) - 5 = 5 * k by omega]; exact pa h) he
            · skip
              rw [if_pos h_72] at he
              rw [he]
              refine j_aload_n 1 76 dX8_fault_75 rfl rfl ?_
              refine j_get 0 8 1 79 in_X8_fault_X8 dX8_fault_76 rfl rfl rfl (by decide) rfl rfl ?_
              exact j_iret dX8_fault_79 rfl (by rfl) (by rfl)
          · skip
            have e1 : stX w x n k b q s = paR x n k b q s := if_pos h_54
            rw [e1] at he
            have st := paR_rng (x := x) (n := n) (m := k) (b := b) (p := q) (r := s) h3
            have pa : w = 0 → (paR x n k b q s).2.2 (5 * k) = kS (kdF x n b q) := fun _ => (paR_at (x := x) (n := n) (m := k) (b := b) (p := q) (r := s) h3).1
            refine j_aload_n 1 58 dX8_fault_57 rfl rfl ?_
            refine j_iload_n 0 59 dX8_fault_58 rfl rfl ?_
            first
              | rw [h6 h_54 (by omega)]
              | rw [show (120 : Int) = kS b by rw [h5 (by omega)]; rfl]
            refine j_callVi 0 [0, 1, 2] 62 [_, _, _] (c_X8_part E _ _ _ _ _ _ _ _ _ _ _ _ _ _ _ (by omega) (by omega) (by assumption) (by omega) (by omega)) rfl kX8_fault_X8_part rfl rfl rfl rfl rfl rfl rfl (Nat.le_of_ble_eq_true rfl) (by decide) dX8_fault_59 rfl ?_
            refine j_if_eq 75 65 dX8_fault_62 rfl (by decide) (by omega) (fun h_62 => ?_) (fun h_62 => ?_)
            · skip
              rw [if_pos h_62] at he
              rw [he]
              refine j_aload_n 1 76 dX8_fault_75 rfl rfl ?_
              refine j_get 0 8 1 79 in_X8_fault_X8 dX8_fault_76 rfl rfl rfl (by decide) rfl rfl ?_
              exact j_iret dX8_fault_79 rfl (by rfl) (by rfl)
            · skip
              generalize (paR x n k b q s).2.1 = q2 at he st ⊢
              generalize (paR x n k b q s).2.2 = s2 at he pa ⊢
              rw [if_neg (by omega)] at he
              refine j_goto 80 dX8_fault_65 (by decide) ?_
              refine j_aload_n 1 81 dX8_fault_80 rfl rfl ?_
              refine j_dup 82 dX8_fault_81 rfl rfl ?_
              refine j_get 0 9 2 85 in_X8_fault_X8 dX8_fault_82 rfl rfl rfl (by decide) rfl rfl ?_
              refine j_iconst 86 dX8_fault_85 rfl ?_
              refine j_iadd 87 dX8_fault_86 rfl ?_
              refine j_put 0 9 2 90 [(_, .inr (_, [_, _, _, _, _, _, _, _, _, _, _])), _, _] tyX8 tyX8_ok nmX8 in_X8_fault_X8 dX8_fault_87 rfl rfl rfl (by decide) rfl rfl rfl rfl rfl (Nat.le_of_ble_eq_true rfl) rfl ?_
              refine j_aload_n 1 91 dX8_fault_90 rfl rfl ?_
              refine j_bipush 93 dX8_fault_91 rfl (by decide) ?_
              refine j_callVi 0 [0, 1, 2] 96 [_, _, _] (c_X8_sign E _ _ _ _ _ _ _ _ _ _ _ _ _ _ _ (by omega) (by omega) (by assumption) (by omega)) rfl kX8_fault_X8_sign rfl rfl rfl rfl rfl rfl rfl (Nat.le_of_ble_eq_true rfl) (by decide) dX8_fault_93 rfl ?_
              refine j_istore_n 97 [_, _, _, _] dX8_fault_96 rfl (by decide) rfl ?_
              refine j_perm [2, 3, 0] rfl ?_
              refine j_goto 23 dX8_fault_97 (by decide) ?_
              rcases tkP_01 x n 44 q2 with hk | hk
              · rw [if_pos hk] at he
                rw [hk, Int.add_zero]
                refine j_iload_n 2 24 dX8_fault_23 rfl rfl ?_
                refine j_if_eq 100 27 dX8_fault_24 rfl (by decide) (by decide) (fun _ => ?_) (fun h => absurd rfl h)
                refine j_perm [0, 1] rfl ?_
                exact key100 q2 (k + 1) _ s2 he (by omega) (fun h => if_pos (by omega)) (fun h => if_neg (by omega))
              · have g := tkP_1 (x := x) (n := n) (c := 44) (p := q2) (by omega)
                rw [if_neg (by omega)] at he
                rw [hk]
                exact ih (q2 + 1) (k + 1) (kdF x n b q) s2 (by omega) (by omega) (by omega) (by omega) (fun h => absurd h (by omega)) (fun h _ => by rw [show 5 * (k + 1) - 5 = 5 * k by omega]; exact pa h) he
    refine j_perm [1, 2, 0] rfl ?_
    exact key23 60 0 0 0 r (by omega) (by omega) (by omega) (by omega) (fun _ => rfl) (fun _ h => absurd h (by omega)) hT
  · skip
    have e0 : fltM w x n p m r = (-1, p, m, r) := if_pos (by omega)
    rw [e0]
    refine j_iconst 10 dX8_fault_9 rfl ?_
    exact j_iret dX8_fault_10 rfl (by rfl) (by rfl)
