/-! texts: what reading them answers, by the place p in the pad x of n signs -/
def tkP (x : Int → Int) (n c p : Int) : Int := if p < n ∧ x p = c then 1 else 0
def bgF : Nat → Int → Int → Int → Int → Int
  | 0, _, _, _, _ => 0
  | k + 1, a, b, lo, hi => if a ≤ hi ∧ lo ≤ b then 1 else bgF k (a * 10) (b * 10 + 9) lo hi
def ldF (s lo hi : Int) : Int := if s = 0 then (if lo = 0 then 1 else 0) else bgF 3 s s lo hi
def nmL (x : Int → Int) (n lo hi : Int) : Nat → Int → Int → Int → Int × Int × Int
  | 0, p, v, d => (p, v, d)
  | f + 1, p, v, d => if p < n ∧ (48 ≤ x p ∧ x p ≤ 57) ∧ ¬ (0 < d ∧ v = 0) ∧ ldF (v * 10 + (x p - 48)) lo hi = 1 then nmL x n lo hi f (p + 1) (v * 10 + (x p - 48)) (d + 1) else (p, v, d)
def nmP (x : Int → Int) (n lo hi p : Int) : Int := (nmL x n lo hi 61 p 0 0).1
def nmV (x : Int → Int) (n lo hi p : Int) : Int := (nmL x n lo hi 61 p 0 0).2.1
def nmD (x : Int → Int) (n lo hi p : Int) : Int := (nmL x n lo hi 61 p 0 0).2.2
def nmZ (x : Int → Int) (n lo hi p : Int) : Int := if 0 < nmD x n lo hi p ∧ lo ≤ nmV x n lo hi p ∧ nmV x n lo hi p ≤ hi then 1 else 0
theorem tkP_01 (x : Int → Int) (n c p : Int) : tkP x n c p = 0 ∨ tkP x n c p = 1 := by
  unfold tkP; split <;> omega
theorem tkP_1 {x : Int → Int} {n c p : Int} (h : ¬ tkP x n c p = 0) : tkP x n c p = 1 ∧ p < n ∧ x p = c := by
  unfold tkP at h ⊢
  by_cases q : p < n ∧ x p = c
  · rw [if_pos q]; exact ⟨rfl, q⟩
  · rw [if_neg q] at h; exact absurd rfl h
theorem bgF_01 : ∀ (k : Nat) (a b lo hi : Int), bgF k a b lo hi = 0 ∨ bgF k a b lo hi = 1 := by
  intro k
  induction k with
  | zero => intro a b lo hi; exact Or.inl rfl
  | succ k ih =>
    intro a b lo hi
    unfold bgF
    split
    · exact Or.inr rfl
    · exact ih _ _ _ _
theorem bgF_le : ∀ (k : Nat) (a b lo hi : Int), 0 ≤ a → bgF k a b lo hi = 1 → a ≤ hi := by
  intro k
  induction k with
  | zero => intro a b lo hi _ h; cases h
  | succ k ih =>
    intro a b lo hi h0 h
    unfold bgF at h
    by_cases q : a ≤ hi ∧ lo ≤ b
    · exact q.1
    · rw [if_neg q] at h
      have := ih _ _ _ _ (by omega) h
      omega
theorem ldF_01 (s lo hi : Int) : ldF s lo hi = 0 ∨ ldF s lo hi = 1 := by
  unfold ldF
  split
  · split <;> omega
  · exact bgF_01 _ _ _ _ _
theorem ldF_le {s lo hi : Int} (h0 : 0 ≤ s) (hh : 0 ≤ hi) (h : ldF s lo hi = 1) : s ≤ hi := by
  unfold ldF at h
  by_cases q : s = 0
  · omega
  · rw [if_neg q] at h
    exact bgF_le _ _ _ _ _ h0 h
theorem nmL_rng {x : Int → Int} {n lo hi : Int} (hh : 0 ≤ hi) : ∀ (f : Nat) (p v d : Int), p ≤ n → (0 ≤ v ∧ v ≤ hi) → 0 ≤ d → (p ≤ (nmL x n lo hi f p v d).1 ∧ (nmL x n lo hi f p v d).1 ≤ n) ∧ (0 ≤ (nmL x n lo hi f p v d).2.1 ∧ (nmL x n lo hi f p v d).2.1 ≤ hi) ∧ d ≤ (nmL x n lo hi f p v d).2.2 ∧ (nmL x n lo hi f p v d).2.2 - d = (nmL x n lo hi f p v d).1 - p := by
  intro f
  induction f with
  | zero => intro p v d hp hv hd; unfold nmL; dsimp only; omega
  | succ f ih =>
    intro p v d hp hv hd
    unfold nmL
    by_cases q : p < n ∧ (48 ≤ x p ∧ x p ≤ 57) ∧ ¬ (0 < d ∧ v = 0) ∧ ldF (v * 10 + (x p - 48)) lo hi = 1
    · rw [if_pos q]
      have h1 := ldF_le (by omega) hh q.2.2.2
      have h2 := ih (p + 1) (v * 10 + (x p - 48)) (d + 1) (by omega) (by omega) (by omega)
      omega
    · rw [if_neg q]; dsimp only; omega
theorem nm_rng {x : Int → Int} {n lo hi p : Int} (hh : 0 ≤ hi) (hp : p ≤ n) : (p ≤ nmP x n lo hi p ∧ nmP x n lo hi p ≤ n) ∧ (0 ≤ nmV x n lo hi p ∧ nmV x n lo hi p ≤ hi) ∧ 0 ≤ nmD x n lo hi p ∧ nmD x n lo hi p = nmP x n lo hi p - p := by
  have h := nmL_rng (x := x) (n := n) (lo := lo) (hi := hi) hh 61 p 0 0 hp (by omega) (by omega)
  unfold nmP nmV nmD
  omega
theorem nmZ_01 (x : Int → Int) (n lo hi p : Int) : nmZ x n lo hi p = 0 ∨ nmZ x n lo hi p = 1 := by
  unfold nmZ; split <;> omega
/-- three numbers: whether they stand there, the place behind, the last number read, the traits -/
def th3 (x : Int → Int) (n p v1 v2 pt : Int) : Int × Int × Int × Int := if tkP x n 98 p = 0 then (0, p, v2, pt) else if nmZ x n 0 9 (p + 1) = 0 then (0, nmP x n 0 9 (p + 1), nmV x n 0 9 (p + 1), pt) else (1, nmP x n 0 9 (p + 1), nmV x n 0 9 (p + 1), tOf v1 v2 (nmV x n 0 9 (p + 1)))
def th2 (x : Int → Int) (n p v1 pt : Int) : Int × Int × Int × Int := if tkP x n 114 p = 0 then (0, p, v1, pt) else if nmZ x n 0 100 (p + 1) = 0 then (0, nmP x n 0 100 (p + 1), nmV x n 0 100 (p + 1), pt) else th3 x n (nmP x n 0 100 (p + 1)) v1 (nmV x n 0 100 (p + 1)) pt
def th1 (x : Int → Int) (n p pn pt : Int) : Int × Int × Int × Int := if tkP x n 119 p = 0 then (0, p, pn, pt) else if nmZ x n 50 300 (p + 1) = 0 then (0, nmP x n 50 300 (p + 1), nmV x n 50 300 (p + 1), pt) else th2 x n (nmP x n 50 300 (p + 1)) (nmV x n 50 300 (p + 1)) pt
def kdF (x : Int → Int) (n b p : Int) : Int := if tkP x n 120 p = 0 then (if b = 1 ∧ tkP x n 38 p = 1 then 2 else 1) else 0
def kdP (x : Int → Int) (n b p : Int) : Int := if kdF x n b p = 1 then p else p + 1
theorem th3_rng {x : Int → Int} {n p v1 v2 pt : Int} (hp : p ≤ n) : ((th3 x n p v1 v2 pt).1 = 0 ∨ (th3 x n p v1 v2 pt).1 = 1) ∧ p ≤ (th3 x n p v1 v2 pt).2.1 ∧ (th3 x n p v1 v2 pt).2.1 ≤ n := by
  unfold th3
  by_cases q : tkP x n 98 p = 0
  · rw [if_pos q]; dsimp only; omega
  · have q2 := tkP_1 q
    have r := nm_rng (x := x) (n := n) (lo := 0) (hi := 9) (p := p + 1) (by omega) (by omega)
    rw [if_neg q]
    split <;> (dsimp only; omega)
theorem th2_rng {x : Int → Int} {n p v1 pt : Int} (hp : p ≤ n) : ((th2 x n p v1 pt).1 = 0 ∨ (th2 x n p v1 pt).1 = 1) ∧ p ≤ (th2 x n p v1 pt).2.1 ∧ (th2 x n p v1 pt).2.1 ≤ n := by
  unfold th2
  by_cases q : tkP x n 114 p = 0
  · rw [if_pos q]; dsimp only; omega
  · have q2 := tkP_1 q
    have r := nm_rng (x := x) (n := n) (lo := 0) (hi := 100) (p := p + 1) (by omega) (by omega)
    rw [if_neg q]
    split
    · dsimp only; omega
    · have := th3_rng (x := x) (n := n) (p := nmP x n 0 100 (p + 1)) (v1 := v1) (v2 := nmV x n 0 100 (p + 1)) (pt := pt) r.1.2
      omega
theorem th1_rng {x : Int → Int} {n p pn pt : Int} (hp : p ≤ n) : ((th1 x n p pn pt).1 = 0 ∨ (th1 x n p pn pt).1 = 1) ∧ p ≤ (th1 x n p pn pt).2.1 ∧ (th1 x n p pn pt).2.1 ≤ n := by
  unfold th1
  by_cases q : tkP x n 119 p = 0
  · rw [if_pos q]; dsimp only; omega
  · have q2 := tkP_1 q
    have r := nm_rng (x := x) (n := n) (lo := 50) (hi := 300) (p := p + 1) (by omega) (by omega)
    rw [if_neg q]
    split
    · dsimp only; omega
    · have := th2_rng (x := x) (n := n) (p := nmP x n 50 300 (p + 1)) (v1 := nmV x n 50 300 (p + 1)) (pt := pt) r.1.2
      omega
theorem kd_rng {x : Int → Int} {n b p : Int} (hp : p ≤ n) : (0 ≤ kdF x n b p ∧ kdF x n b p ≤ 2) ∧ p ≤ kdP x n b p ∧ kdP x n b p ≤ n := by
  have h : (kdF x n b p = 1) ∨ (kdF x n b p = 0 ∧ p < n) ∨ (kdF x n b p = 2 ∧ p < n) := by
    unfold kdF
    by_cases q : tkP x n 120 p = 0
    · rw [if_pos q]
      by_cases q2 : b = 1 ∧ tkP x n 38 p = 1
      · rw [if_pos q2]
        have := (tkP_1 (x := x) (n := n) (c := 38) (p := p) (by omega)).2.1
        omega
      · rw [if_neg q2]; omega
    · rw [if_neg q]
      have := (tkP_1 q).2.1
      omega
  unfold kdP
  split <;> omega
/-- one part of the apples -/
def paP (x : Int → Int) (n b p pn pt : Int) : Int × Int × Int × Int := if kdF x n b p = 0 then (1, kdP x n b p, pn, pt) else th1 x n (kdP x n b p) pn pt
/-- one rule -/
def ruP (x : Int → Int) (n p pn pt : Int) : Int × Int × Int × Int := if (th1 x n p pn pt).1 = 0 then th1 x n p pn pt else if tkP x n 62 (th1 x n p pn pt).2.1 = 0 then (0, (th1 x n p pn pt).2) else (nmZ x n 0 3 ((th1 x n p pn pt).2.1 + 1), nmP x n 0 3 ((th1 x n p pn pt).2.1 + 1), nmV x n 0 3 ((th1 x n p pn pt).2.1 + 1), (th1 x n p pn pt).2.2.2)
theorem paP_rng {x : Int → Int} {n b p pn pt : Int} (hp : p ≤ n) : ((paP x n b p pn pt).1 = 0 ∨ (paP x n b p pn pt).1 = 1) ∧ p ≤ (paP x n b p pn pt).2.1 ∧ (paP x n b p pn pt).2.1 ≤ n := by
  have k := kd_rng (x := x) (n := n) (b := b) hp
  unfold paP
  split
  · dsimp only; omega
  · have := th1_rng (x := x) (n := n) (p := kdP x n b p) (pn := pn) (pt := pt) k.2.2
    omega
theorem ruP_rng {x : Int → Int} {n p pn pt : Int} (hp : p ≤ n) : ((ruP x n p pn pt).1 = 0 ∨ (ruP x n p pn pt).1 = 1) ∧ p ≤ (ruP x n p pn pt).2.1 ∧ (ruP x n p pn pt).2.1 ≤ n := by
  have k := th1_rng (x := x) (n := n) (p := p) (pn := pn) (pt := pt) hp
  unfold ruP
  split
  · exact k
  · split
    · dsimp only; omega
    · rename_i h1 h2
      have := (tkP_1 h2).2.1
      have r := nm_rng (x := x) (n := n) (lo := 0) (hi := 3) (p := (th1 x n p pn pt).2.1 + 1) (by omega) (by omega)
      have := nmZ_01 x n 0 3 ((th1 x n p pn pt).2.1 + 1)
      dsimp only
      omega
abbrev rRes : Type := Int × Int × Int × Int × Int × (Int → Int) × (Int → Int)
/-- the apples, part by part: whether, the place, the parts, the last number, the traits, the rows -/
def rA (x : Int → Int) (n : Int) : Nat → Int → Int → Int → Int → Int → (Int → Int) → (Int → Int) → rRes
  | 0, p, _, k, pn, pt, y, z => (0, p, k, pn, pt, y, z)
  | f + 1, p, b, k, pn, pt, y, z => if (paP x n b p pn pt).1 = 0 then (0, (paP x n b p pn pt).2.1, k, (paP x n b p pn pt).2.2.1, (paP x n b p pn pt).2.2.2, y, z)
    else if n ≤ (paP x n b p pn pt).2.1 then (1, (paP x n b p pn pt).2.1, k + 1, (paP x n b p pn pt).2.2.1, (paP x n b p pn pt).2.2.2, jU y k (paP x n b p pn pt).2.2.2, jU z k (kdF x n b p))
    else if tkP x n 44 (paP x n b p pn pt).2.1 = 0 then (0, (paP x n b p pn pt).2.1, k + 1, (paP x n b p pn pt).2.2.1, (paP x n b p pn pt).2.2.2, jU y k (paP x n b p pn pt).2.2.2, jU z k (kdF x n b p))
    else rA x n f ((paP x n b p pn pt).2.1 + 1) (kdF x n b p) (k + 1) (paP x n b p pn pt).2.2.1 (paP x n b p pn pt).2.2.2 (jU y k (paP x n b p pn pt).2.2.2) (jU z k (kdF x n b p))
def rR (x : Int → Int) (n : Int) : Nat → Int → Int → Int → Int → (Int → Int) → (Int → Int) → rRes
  | 0, p, k, pn, pt, y, z => (0, p, k, pn, pt, y, z)
  | f + 1, p, k, pn, pt, y, z => if (ruP x n p pn pt).1 = 0 then (0, (ruP x n p pn pt).2.1, k, (ruP x n p pn pt).2.2.1, (ruP x n p pn pt).2.2.2, y, z)
    else if n ≤ (ruP x n p pn pt).2.1 then (1, (ruP x n p pn pt).2.1, k + 1, (ruP x n p pn pt).2.2.1, (ruP x n p pn pt).2.2.2, jU y k (ruP x n p pn pt).2.2.2, jU z k (ruP x n p pn pt).2.2.1)
    else if tkP x n 44 (ruP x n p pn pt).2.1 = 0 then (0, (ruP x n p pn pt).2.1, k + 1, (ruP x n p pn pt).2.2.1, (ruP x n p pn pt).2.2.2, jU y k (ruP x n p pn pt).2.2.2, jU z k (ruP x n p pn pt).2.2.1)
    else rR x n f ((ruP x n p pn pt).2.1 + 1) (k + 1) (ruP x n p pn pt).2.2.1 (ruP x n p pn pt).2.2.2 (jU y k (ruP x n p pn pt).2.2.2) (jU z k (ruP x n p pn pt).2.2.1)
abbrev wPadR (E : jE) (o a b c : Nat) (x : Int → Int) (n : Int) (r : rRes) : va_W := wPad E o a b c x r.2.2.2.2.2.1 r.2.2.2.2.2.2 n r.2.1 r.2.2.1 r.2.2.2.1 r.2.2.2.2.1
set_option maxRecDepth 20000 in
theorem in_X4_write_X4 : ∀ x ∈ u_ws RX4 TX4 8, x ∈ wsX4_write := by decide +kernel
set_option maxRecDepth 100000 in
set_option maxHeartbeats 4000000 in
theorem c_X4_write (E : jE) (o a b c : Nat) (x y z : Int → Int) (n p pk pn pt : Int) (s : Int) (hn : 0 ≤ n ∧ n < 60) : jMV E yX4_write wsX4_write rmX4_write [.ref o, .int (jI s)] (wPad E o a b c x y z n p pk pn pt) (wPad E o a b c (jU x n s) (y) (z) (n + 1) (p) (pk) (pn) (pt)) := by
  refine jMV_of (cc := cX4_write) (maxL := 2) (ret := none) [(0, .ref o), (1, .int (jI s))] (by decide) rfl rfl (Nat.le_of_ble_eq_true rfl) (fun C => ?_)
  show jG mX4_write E C (jQv E C (wPad E o a b c (jU x n s) (y) (z) (n + 1) (p) (pk) (pn) (pt))) 0 0 0 [(0, .ref o), (1, .int (jI s))] [] (wPad E o a b c x y z n p pk pn pt)
  refine j_aload_n 0 1 dX4_write_0 rfl rfl ?_
  refine j_get 0 3 1 4 in_X4_write_X4 dX4_write_1 rfl rfl rfl (by decide) rfl rfl ?_
  refine j_bipush 6 dX4_write_4 rfl (by decide) ?_
  refine j_icmp_ge 29 9 dX4_write_6 rfl (by decide) (by omega) (by omega) (fun h_6 => ?_) (fun h_6 => ?_)
  · skip
    exact absurd h_6 (by omega)
  · skip
    refine j_aload_n 0 10 dX4_write_9 rfl rfl ?_
    refine j_get 0 0 2 13 in_X4_write_X4 dX4_write_10 rfl rfl rfl (by decide) rfl rfl ?_
    refine j_aload_n 0 14 dX4_write_13 rfl rfl ?_
    refine j_get 0 3 1 17 in_X4_write_X4 dX4_write_14 rfl rfl rfl (by decide) rfl rfl ?_
    refine j_iload_n 1 18 dX4_write_17 rfl rfl ?_
    refine j_iast 1 19 [_, _, _, _] dX4_write_18 rfl rfl (by decide) (by omega) rfl ?_
    refine j_aload_n 0 20 dX4_write_19 rfl rfl ?_
    refine j_dup 21 dX4_write_20 rfl rfl ?_
    refine j_get 0 3 1 24 in_X4_write_X4 dX4_write_21 rfl rfl rfl (by decide) rfl rfl ?_
    refine j_iconst 25 dX4_write_24 rfl ?_
    refine j_iadd 26 dX4_write_25 rfl ?_
    refine j_put 0 3 1 29 [(_, .inr (_, [_, _, _, _, _, _, _, _])), _, _, _] tyX4 tyX4_ok nmX4 in_X4_write_X4 dX4_write_26 rfl rfl rfl (by decide) rfl rfl rfl rfl rfl (Nat.le_of_ble_eq_true rfl) rfl ?_
    exact j_vret dX4_write_29 rfl (by rfl)
set_option maxRecDepth 20000 in
theorem in_X4_startReading_X4 : ∀ x ∈ u_ws RX4 TX4 8, x ∈ wsX4_startReading := by decide +kernel
set_option maxRecDepth 100000 in
set_option maxHeartbeats 4000000 in
theorem c_X4_startReading (E : jE) (o a b c : Nat) (x y z : Int → Int) (n p pk pn pt : Int)  : jMV E yX4_startReading wsX4_startReading rmX4_startReading [.ref o] (wPad E o a b c x y z n p pk pn pt) (wPad E o a b c (x) (y) (z) (n) (0) (0) (pn) (0)) := by
  refine jMV_of (cc := cX4_startReading) (maxL := 1) (ret := none) [(0, .ref o)] (by decide) rfl rfl (Nat.le_of_ble_eq_true rfl) (fun C => ?_)
  show jG mX4_startReading E C (jQv E C (wPad E o a b c (x) (y) (z) (n) (0) (0) (pn) (0))) 0 0 0 [(0, .ref o)] [] (wPad E o a b c x y z n p pk pn pt)
  refine j_aload_n 0 1 dX4_startReading_0 rfl rfl ?_
  refine j_iconst 2 dX4_startReading_1 rfl ?_
  refine j_put 0 4 1 5 [(_, .inr (_, [_, _, _, _, _, _, _, _])), _, _, _] tyX4 tyX4_ok nmX4 in_X4_startReading_X4 dX4_startReading_2 rfl rfl rfl (by decide) rfl rfl rfl rfl rfl (Nat.le_of_ble_eq_true rfl) rfl ?_
  refine j_aload_n 0 6 dX4_startReading_5 rfl rfl ?_
  refine j_iconst 7 dX4_startReading_6 rfl ?_
  refine j_put 0 5 2 10 [(_, .inr (_, [_, _, _, _, _, _, _, _])), _, _, _] tyX4 tyX4_ok nmX4 in_X4_startReading_X4 dX4_startReading_7 rfl rfl rfl (by decide) rfl rfl rfl rfl rfl (Nat.le_of_ble_eq_true rfl) rfl ?_
  refine j_aload_n 0 11 dX4_startReading_10 rfl rfl ?_
  refine j_iconst 12 dX4_startReading_11 rfl ?_
  refine j_put 0 7 3 15 [(_, .inr (_, [_, _, _, _, _, _, _, _])), _, _, _] tyX4 tyX4_ok nmX4 in_X4_startReading_X4 dX4_startReading_12 rfl rfl rfl (by decide) rfl rfl rfl rfl rfl (Nat.le_of_ble_eq_true rfl) rfl ?_
  exact j_vret dX4_startReading_15 rfl (by rfl)
set_option maxRecDepth 20000 in
theorem in_X4_take_X4 : ∀ x ∈ u_ws RX4 TX4 8, x ∈ wsX4_take := by decide +kernel
set_option maxRecDepth 100000 in
set_option maxHeartbeats 4000000 in
theorem c_X4_take (E : jE) (o a b c : Nat) (x y z : Int → Int) (n p pk pn pt : Int) (s : Int) (hn : 0 ≤ n ∧ n ≤ 60) (hp : 0 ≤ p ∧ p ≤ n) (hx : ∀ i, 0 ≤ x i ∧ x i < 1000) (hs : -2147483648 ≤ s ∧ s < 2147483648) : jMI E yX4_take wsX4_take rmX4_take [.ref o, .int (jI s)] (wPad E o a b c x y z n p pk pn pt) (tkP x n s p) (wPad E o a b c (x) (y) (z) (n) (p + tkP x n s p) (pk) (pn) (pt)) := by
  refine jMI_of (cc := cX4_take) (maxL := 2) (ret := (some .boolean)) [(0, .ref o), (1, .int (jI s))] (by decide) rfl rfl (Nat.le_of_ble_eq_true rfl) (fun C => ?_)
  show jG mX4_take E C (jQi E C (tkP x n s p) (wPad E o a b c (x) (y) (z) (n) (p + tkP x n s p) (pk) (pn) (pt))) 0 0 0 [(0, .ref o), (1, .int (jI s))] [] (wPad E o a b c x y z n p pk pn pt)
  refine j_aload_n 0 1 dX4_take_0 rfl rfl ?_
  refine j_get 0 4 1 4 in_X4_take_X4 dX4_take_1 rfl rfl rfl (by decide) rfl rfl ?_
  refine j_aload_n 0 5 dX4_take_4 rfl rfl ?_
  refine j_get 0 3 2 8 in_X4_take_X4 dX4_take_5 rfl rfl rfl (by decide) rfl rfl ?_
  refine j_icmp_ge 45 11 dX4_take_8 rfl (by decide) (by omega) (by omega) (fun h_8 => ?_) (fun h_8 => ?_)
  · skip
    have e : tkP x n s p = 0 := if_neg (by omega)
    rw [e, Int.add_zero]
    refine j_iconst 46 dX4_take_45 rfl ?_
    exact j_zret dX4_take_46 rfl (by rfl) (by omega) (by rfl)
  · skip
    refine j_aload_n 0 12 dX4_take_11 rfl rfl ?_
    refine j_get 0 4 1 15 in_X4_take_X4 dX4_take_12 rfl rfl rfl (by decide) rfl rfl ?_
    refine j_bipush 17 dX4_take_15 rfl (by decide) ?_
    refine j_icmp_ge 45 20 dX4_take_17 rfl (by decide) (by omega) (by omega) (fun h_17 => ?_) (fun h_17 => ?_)
    · skip
      have e : tkP x n s p = 0 := if_neg (by omega)
      rw [e, Int.add_zero]
      refine j_iconst 46 dX4_take_45 rfl ?_
      exact j_zret dX4_take_46 rfl (by rfl) (by omega) (by rfl)
    · skip
      have hxp := hx p
      refine j_aload_n 0 21 dX4_take_20 rfl rfl ?_
      refine j_get 0 0 3 24 in_X4_take_X4 dX4_take_21 rfl rfl rfl (by decide) rfl rfl ?_
      refine j_aload_n 0 25 dX4_take_24 rfl rfl ?_
      refine j_get 0 4 1 28 in_X4_take_X4 dX4_take_25 rfl rfl rfl (by decide) rfl rfl ?_
      refine j_iald 1 29 dX4_take_28 rfl rfl (by decide) (by omega) ?_
      refine j_iload_n 1 30 dX4_take_29 rfl rfl ?_
      refine j_icmp_ne 45 33 dX4_take_30 rfl (by decide) (by omega) (by omega) (fun h_30 => ?_) (fun h_30 => ?_)
      · skip
        have e : tkP x n s p = 0 := if_neg (by omega)
        rw [e, Int.add_zero]
        refine j_iconst 46 dX4_take_45 rfl ?_
        exact j_zret dX4_take_46 rfl (by rfl) (by omega) (by rfl)
      · skip
        have e : tkP x n s p = 1 := if_pos (by omega)
        rw [e]
        refine j_aload_n 0 34 dX4_take_33 rfl rfl ?_
        refine j_dup 35 dX4_take_34 rfl rfl ?_
        refine j_get 0 4 1 38 in_X4_take_X4 dX4_take_35 rfl rfl rfl (by decide) rfl rfl ?_
        refine j_iconst 39 dX4_take_38 rfl ?_
        refine j_iadd 40 dX4_take_39 rfl ?_
        refine j_put 0 4 1 43 [(_, .inr (_, [_, _, _, _, _, _, _, _])), _, _, _] tyX4 tyX4_ok nmX4 in_X4_take_X4 dX4_take_40 rfl rfl rfl (by decide) rfl rfl rfl rfl rfl (Nat.le_of_ble_eq_true rfl) rfl ?_
        refine j_iconst 44 dX4_take_43 rfl ?_
        exact j_zret dX4_take_44 rfl (by rfl) (by omega) (by rfl)
set_option maxRecDepth 20000 in
theorem in_X4_addPart_X4 : ∀ x ∈ u_ws RX4 TX4 8, x ∈ wsX4_addPart := by decide +kernel
set_option maxRecDepth 100000 in
set_option maxHeartbeats 4000000 in
theorem c_X4_addPart (E : jE) (o a b c : Nat) (x y z : Int → Int) (n p pk pn pt : Int) (s : Int) (hk : 0 ≤ pk ∧ pk < 60) : jMV E yX4_addPart wsX4_addPart rmX4_addPart [.ref o, .int (jI s)] (wPad E o a b c x y z n p pk pn pt) (wPad E o a b c (x) (jU y pk pt) (jU z pk s) (n) (p) (pk + 1) (pn) (pt)) := by
  refine jMV_of (cc := cX4_addPart) (maxL := 2) (ret := none) [(0, .ref o), (1, .int (jI s))] (by decide) rfl rfl (Nat.le_of_ble_eq_true rfl) (fun C => ?_)
  show jG mX4_addPart E C (jQv E C (wPad E o a b c (x) (jU y pk pt) (jU z pk s) (n) (p) (pk + 1) (pn) (pt))) 0 0 0 [(0, .ref o), (1, .int (jI s))] [] (wPad E o a b c x y z n p pk pn pt)
  refine j_aload_n 0 1 dX4_addPart_0 rfl rfl ?_
  refine j_get 0 5 1 4 in_X4_addPart_X4 dX4_addPart_1 rfl rfl rfl (by decide) rfl rfl ?_
  refine j_bipush 6 dX4_addPart_4 rfl (by decide) ?_
  refine j_icmp_ge 42 9 dX4_addPart_6 rfl (by decide) (by omega) (by omega) (fun h_6 => ?_) (fun h_6 => ?_)
  · skip
    exact absurd h_6 (by omega)
  · skip
    refine j_aload_n 0 10 dX4_addPart_9 rfl rfl ?_
    refine j_get 0 1 2 13 in_X4_addPart_X4 dX4_addPart_10 rfl rfl rfl (by decide) rfl rfl ?_
    refine j_aload_n 0 14 dX4_addPart_13 rfl rfl ?_
    refine j_get 0 5 1 17 in_X4_addPart_X4 dX4_addPart_14 rfl rfl rfl (by decide) rfl rfl ?_
    refine j_aload_n 0 18 dX4_addPart_17 rfl rfl ?_
    refine j_get 0 7 3 21 in_X4_addPart_X4 dX4_addPart_18 rfl rfl rfl (by decide) rfl rfl ?_
    refine j_iast 2 22 [_, _, _, _] dX4_addPart_21 rfl rfl (by decide) (by omega) rfl ?_
    refine j_aload_n 0 23 dX4_addPart_22 rfl rfl ?_
    refine j_get 0 2 4 26 in_X4_addPart_X4 dX4_addPart_23 rfl rfl rfl (by decide) rfl rfl ?_
    refine j_aload_n 0 27 dX4_addPart_26 rfl rfl ?_
    refine j_get 0 5 1 30 in_X4_addPart_X4 dX4_addPart_27 rfl rfl rfl (by decide) rfl rfl ?_
    refine j_iload_n 1 31 dX4_addPart_30 rfl rfl ?_
    refine j_iast 3 32 [_, _, _, _] dX4_addPart_31 rfl rfl (by decide) (by omega) rfl ?_
    refine j_aload_n 0 33 dX4_addPart_32 rfl rfl ?_
    refine j_dup 34 dX4_addPart_33 rfl rfl ?_
    refine j_get 0 5 1 37 in_X4_addPart_X4 dX4_addPart_34 rfl rfl rfl (by decide) rfl rfl ?_
    refine j_iconst 38 dX4_addPart_37 rfl ?_
    refine j_iadd 39 dX4_addPart_38 rfl ?_
    refine j_put 0 5 1 42 [(_, .inr (_, [_, _, _, _, _, _, _, _])), _, _, _] tyX4 tyX4_ok nmX4 in_X4_addPart_X4 dX4_addPart_39 rfl rfl rfl (by decide) rfl rfl rfl rfl rfl (Nat.le_of_ble_eq_true rfl) rfl ?_
    exact j_vret dX4_addPart_42 rfl (by rfl)
theorem kX4_readKind_X4_take : jKv mX4_readKind 52 yX4_take wsX4_take rmX4_take 1 := ⟨gX4_readKind_X4_take, ⟨_, _, _, _, rfl, by decide⟩, by decide +kernel, rfl, rfl, by decide⟩
set_option maxRecDepth 100000 in
set_option maxHeartbeats 4000000 in
theorem c_X4_readKind (E : jE) (o a b c : Nat) (x y z : Int → Int) (n p pk pn pt : Int) (s : Int) (hn : 0 ≤ n ∧ n ≤ 60) (hp : 0 ≤ p ∧ p ≤ n) (hx : ∀ i, 0 ≤ x i ∧ x i < 1000) (hs : 0 ≤ s ∧ s ≤ 2) : jMI E yX4_readKind wsX4_readKind rmX4_readKind [.ref o, .int (jI s)] (wPad E o a b c x y z n p pk pn pt) (kdF x n s p) (wPad E o a b c (x) (y) (z) (n) (kdP x n s p) (pk) (pn) (pt)) := by
  refine jMI_of (cc := cX4_readKind) (maxL := 2) (ret := (some .int)) [(0, .ref o), (1, .int (jI s))] (by decide) rfl rfl (Nat.le_of_ble_eq_true rfl) (fun C => ?_)
  show jG mX4_readKind E C (jQi E C (kdF x n s p) (wPad E o a b c (x) (y) (z) (n) (kdP x n s p) (pk) (pn) (pt))) 0 0 0 [(0, .ref o), (1, .int (jI s))] [] (wPad E o a b c x y z n p pk pn pt)
  refine j_aload_n 0 1 dX4_readKind_0 rfl rfl ?_
  refine j_bipush 3 dX4_readKind_1 rfl (by decide) ?_
  refine j_callVi 0 [0, 1, 2, 3] 6 [_, _, _, _] (c_X4_take E _ _ _ _ _ _ _ _ _ _ _ _ _ (by omega) (by omega) (by assumption) (by omega)) rfl kX4_readKind_X4_take rfl rfl rfl rfl rfl rfl rfl (Nat.le_of_ble_eq_true rfl) (by decide) dX4_readKind_3 rfl ?_
  have q1 := tkP_01 x n 120 p
  have q2 := tkP_01 x n 38 p
  refine j_if_eq 11 9 dX4_readKind_6 rfl (by decide) (by omega) (fun h_6 => ?_) (fun h_6 => ?_)
  · skip
    rw [h_6, Int.add_zero]
    refine j_iload_n 1 12 dX4_readKind_11 rfl rfl ?_
    refine j_iconst 13 dX4_readKind_12 rfl ?_
    refine j_icmp_ne 27 16 dX4_readKind_13 rfl (by decide) (by omega) (by omega) (fun h_13 => ?_) (fun h_13 => ?_)
    · skip
      have e : kdF x n s p = 1 := by unfold kdF; rw [if_pos h_6]; exact if_neg (by omega)
      have e2 : kdP x n s p = p := if_pos e
      rw [e, e2]
      refine j_iconst 28 dX4_readKind_27 rfl ?_
      exact j_iret dX4_readKind_28 rfl (by rfl) (by rfl)
    · skip
      refine j_aload_n 0 17 dX4_readKind_16 rfl rfl ?_
      refine j_bipush 19 dX4_readKind_17 rfl (by decide) ?_
      refine j_callVi 0 [0, 1, 2, 3] 22 [_, _, _, _] (c_X4_take E _ _ _ _ _ _ _ _ _ _ _ _ _ (by omega) (by omega) (by assumption) (by omega)) rfl kX4_readKind_X4_take rfl rfl rfl rfl rfl rfl rfl (Nat.le_of_ble_eq_true rfl) (by decide) dX4_readKind_19 rfl ?_
      refine j_if_eq 27 25 dX4_readKind_22 rfl (by decide) (by omega) (fun h_22 => ?_) (fun h_22 => ?_)
      · skip
        have e : kdF x n s p = 1 := by unfold kdF; rw [if_pos h_6]; exact if_neg (by omega)
        have e2 : kdP x n s p = p := if_pos e
        rw [e, e2, h_22, Int.add_zero]
        refine j_iconst 28 dX4_readKind_27 rfl ?_
        exact j_iret dX4_readKind_28 rfl (by rfl) (by rfl)
      · skip
        have e1 : tkP x n 38 p = 1 := by omega
        have e : kdF x n s p = 2 := by unfold kdF; rw [if_pos h_6]; exact if_pos (by omega)
        have e2 : kdP x n s p = p + 1 := by unfold kdP; rw [e]; exact if_neg (by omega)
        rw [e, e1, e2]
        refine j_iconst 26 dX4_readKind_25 rfl ?_
        exact j_iret dX4_readKind_26 rfl (by rfl) (by rfl)
  · skip
    have e1 : tkP x n 120 p = 1 := by omega
    have e : kdF x n s p = 0 := if_neg h_6
    have e2 : kdP x n s p = p + 1 := by unfold kdP; rw [e]; exact if_neg (by omega)
    rw [e, e1, e2]
    refine j_iconst 10 dX4_readKind_9 rfl ?_
    exact j_iret dX4_readKind_10 rfl (by rfl) (by rfl)
set_option maxRecDepth 100000 in
set_option maxHeartbeats 4000000 in
theorem c_X4_leadsInto (E : jE) (s lo hi : Int) (hs : 0 ≤ s ∧ s ≤ 100000) (hlo : 0 ≤ lo ∧ lo ≤ 100000) (hhi : 0 ≤ hi ∧ hi ≤ 100000) : jMI E yX4_leadsInto wsX4_leadsInto rmX4_leadsInto [.int (jI s), .int (jI lo), .int (jI hi)] ([]) (ldF s lo hi) ([]) := by
  refine jMI_of (cc := cX4_leadsInto) (maxL := 6) (ret := (some .boolean)) [(0, .int (jI s)), (1, .int (jI lo)), (2, .int (jI hi))] (by decide) rfl rfl (Nat.le_of_ble_eq_true rfl) (fun C => ?_)
  show jG mX4_leadsInto E C (jQi E C (ldF s lo hi) ([])) 0 0 0 [(0, .int (jI s)), (1, .int (jI lo)), (2, .int (jI hi))] [] ([])
  refine j_iload_n 0 1 dX4_leadsInto_0 rfl rfl ?_
  refine j_if_ne 14 4 dX4_leadsInto_1 rfl (by decide) (by omega) (fun h_1 => ?_) (fun h_1 => ?_)
  · skip
    have e0 : ldF s lo hi = bgF 3 s s lo hi := if_neg (by omega)
    refine j_iload_n 0 15 dX4_leadsInto_14 rfl rfl ?_
    refine j_istore_n 16 [_, _, _, _] dX4_leadsInto_15 rfl (by decide) rfl ?_
    refine j_iload_n 1 17 dX4_leadsInto_16 rfl rfl ?_
    refine j_istore 19 [_, _, _, _, _] dX4_leadsInto_17 rfl (by decide) rfl ?_
    refine j_iconst 20 dX4_leadsInto_19 rfl ?_
    refine j_istore 22 [_, _, _, _, _, _] dX4_leadsInto_20 rfl (by decide) rfl ?_
    have key22 : ∀ (fu : Nat) (i u v : Int), i + fu = 4 → (0 ≤ i ∧ i ≤ 3) → (0 ≤ u ∧ u ≤ 100000000 ∧ (i ≤ 2 → u ≤ 10000000) ∧ (i ≤ 1 → u ≤ 1000000) ∧ (i ≤ 0 → u ≤ 100000)) → (0 ≤ v ∧ v ≤ 1000000000 ∧ (i ≤ 2 → v ≤ 20000000) ∧ (i ≤ 1 → v ≤ 1500000) ∧ (i ≤ 0 → v ≤ 100000)) → ldF s lo hi = bgF (3 - i).toNat u v lo hi → jG mX4_leadsInto E C (jQi E C (ldF s lo hi) ([])) 0 0 22 [(0, .int (jI s)), (1, .int (jI lo)), (2, .int (jI hi)), (3, .int (jI u)), (4, .int (jI v)), (5, .int (jI i))] [] ([]) := by
      intro fu
      induction fu with
      | zero => intro i u v h1 h2 h3 h4 he; exact absurd h1 (by omega)
      | succ fu ih =>
        intro i u v h1 h2 h3 h4 he
        refine j_iload 5 24 dX4_leadsInto_22 rfl rfl ?_
        refine j_iconst 25 dX4_leadsInto_24 rfl ?_
        refine j_icmp_gt 62 28 dX4_leadsInto_25 rfl (by decide) (by omega) (by omega) (fun h_25 => ?_) (fun h_25 => ?_)
        · skip
          obtain rfl : i = 3 := by omega
          change _ = (0 : Int) at he
          rw [he]
          refine j_iconst 63 dX4_leadsInto_62 rfl ?_
          exact j_zret dX4_leadsInto_63 rfl (by rfl) (by decide) (by rfl)
        · skip
          rw [show (3 - i).toNat = (3 - (i + 1)).toNat + 1 by omega, bgF] at he
          refine j_iload_n 3 29 dX4_leadsInto_28 rfl rfl ?_
          refine j_iload_n 2 30 dX4_leadsInto_29 rfl rfl ?_
          refine j_icmp_gt 41 33 dX4_leadsInto_30 rfl (by decide) (by omega) (by omega) (fun h_30 => ?_) (fun h_30 => ?_)
          · skip
            refine j_iload_n 3 42 dX4_leadsInto_41 rfl rfl ?_
            refine j_bipush 44 dX4_leadsInto_42 rfl (by decide) ?_
            refine j_imul 45 dX4_leadsInto_44 rfl ?_
            refine j_istore_n 46 [_, _, _, _, _, _] dX4_leadsInto_45 rfl (by decide) rfl ?_
            refine j_iload 4 48 dX4_leadsInto_46 rfl rfl ?_
            refine j_bipush 50 dX4_leadsInto_48 rfl (by decide) ?_
            refine j_imul 51 dX4_leadsInto_50 rfl ?_
            refine j_bipush 53 dX4_leadsInto_51 rfl (by decide) ?_
            refine j_iadd 54 dX4_leadsInto_53 rfl ?_
            refine j_istore 56 [_, _, _, _, _, _] dX4_leadsInto_54 rfl (by decide) rfl ?_
            refine j_iinc 5 59 [_, _, _, _, _, _] dX4_leadsInto_56 rfl rfl (by decide) rfl ?_
            refine j_goto 22 dX4_leadsInto_59 (by decide) ?_
            refine j_perm [3, 4, 5, 2, 1, 0] rfl ?_
            rw [if_neg (by omega)] at he
            exact ih (i + 1) (u * 10) (v * 10 + 9) (by omega) (by omega) (by omega) (by omega) he
          · skip
            refine j_iload 4 35 dX4_leadsInto_33 rfl rfl ?_
            refine j_iload_n 1 36 dX4_leadsInto_35 rfl rfl ?_
            refine j_icmp_lt 41 39 dX4_leadsInto_36 rfl (by decide) (by omega) (by omega) (fun h_36 => ?_) (fun h_36 => ?_)
            · skip
              refine j_iload_n 3 42 dX4_leadsInto_41 rfl rfl ?_
              refine j_bipush 44 dX4_leadsInto_42 rfl (by decide) ?_
              refine j_imul 45 dX4_leadsInto_44 rfl ?_
              refine j_istore_n 46 [_, _, _, _, _, _] dX4_leadsInto_45 rfl (by decide) rfl ?_
              refine j_iload 4 48 dX4_leadsInto_46 rfl rfl ?_
              refine j_bipush 50 dX4_leadsInto_48 rfl (by decide) ?_
              refine j_imul 51 dX4_leadsInto_50 rfl ?_
              refine j_bipush 53 dX4_leadsInto_51 rfl (by decide) ?_
              refine j_iadd 54 dX4_leadsInto_53 rfl ?_
              refine j_istore 56 [_, _, _, _, _, _] dX4_leadsInto_54 rfl (by decide) rfl ?_
              refine j_iinc 5 59 [_, _, _, _, _, _] dX4_leadsInto_56 rfl rfl (by decide) rfl ?_
              refine j_goto 22 dX4_leadsInto_59 (by decide) ?_
              refine j_perm [3, 4, 5, 2, 1, 0] rfl ?_
              rw [if_neg (by omega)] at he
              exact ih (i + 1) (u * 10) (v * 10 + 9) (by omega) (by omega) (by omega) (by omega) he
            · skip
              rw [if_pos (by omega)] at he
              rw [he]
              refine j_iconst 40 dX4_leadsInto_39 rfl ?_
              exact j_zret dX4_leadsInto_40 rfl (by rfl) (by decide) (by rfl)
    refine j_perm [3, 4, 5, 2, 1, 0] rfl ?_
    exact key22 4 0 s s (by omega) (by omega) (by omega) (by omega) e0
  · skip
    refine j_iload_n 1 5 dX4_leadsInto_4 rfl rfl ?_
    refine j_if_ne 12 8 dX4_leadsInto_5 rfl (by decide) (by omega) (fun h_5 => ?_) (fun h_5 => ?_)
    · skip
      have e : ldF s lo hi = 0 := by unfold ldF; rw [if_pos (by omega), if_neg (by omega)]
      rw [e]
      refine j_iconst 13 dX4_leadsInto_12 rfl ?_
      exact j_zret dX4_leadsInto_13 rfl (by rfl) (by decide) (by rfl)
    · skip
      have e : ldF s lo hi = 1 := by unfold ldF; rw [if_pos (by omega), if_pos (by omega)]
      rw [e]
      refine j_iconst 9 dX4_leadsInto_8 rfl ?_
      refine j_goto 13 dX4_leadsInto_9 (by decide) ?_
      exact j_zret dX4_leadsInto_13 rfl (by rfl) (by decide) (by rfl)
set_option maxRecDepth 20000 in
theorem in_X4_readNumber_X4 : ∀ x ∈ u_ws RX4 TX4 8, x ∈ wsX4_readNumber := by decide +kernel
theorem kX4_readNumber_X4_leadsInto : jKs mX4_readNumber 66 yX4_leadsInto wsX4_leadsInto rmX4_leadsInto 3 := ⟨gX4_readNumber_X4_leadsInto, ⟨_, _, _, _, rfl, by decide⟩, by decide +kernel, rfl, rfl, by decide⟩
set_option maxRecDepth 100000 in
set_option maxHeartbeats 4000000 in
theorem c_X4_readNumber (E : jE) (o a b c : Nat) (x y z : Int → Int) (n p pk pn pt : Int) (lo hi : Int) (hn : 0 ≤ n ∧ n ≤ 60) (hp : 0 ≤ p ∧ p ≤ n) (hx : ∀ i, 0 ≤ x i ∧ x i < 1000) (hlo : 0 ≤ lo ∧ lo ≤ 300) (hhi : 0 ≤ hi ∧ hi ≤ 300) : jMI E yX4_readNumber wsX4_readNumber rmX4_readNumber [.ref o, .int (jI lo), .int (jI hi)] (wPad E o a b c x y z n p pk pn pt) (nmZ x n lo hi p) (wPad E o a b c (x) (y) (z) (n) (nmP x n lo hi p) (pk) (nmV x n lo hi p) (pt)) := by
  refine jMI_of (cc := cX4_readNumber) (maxL := 6) (ret := (some .boolean)) [(0, .ref o), (1, .int (jI lo)), (2, .int (jI hi))] (by decide) rfl rfl (Nat.le_of_ble_eq_true rfl) (fun C => ?_)
  show jG mX4_readNumber E C (jQi E C (nmZ x n lo hi p) (wPad E o a b c (x) (y) (z) (n) (nmP x n lo hi p) (pk) (nmV x n lo hi p) (pt))) 0 0 0 [(0, .ref o), (1, .int (jI lo)), (2, .int (jI hi))] [] (wPad E o a b c x y z n p pk pn pt)
  obtain ⟨T, hT⟩ : ∃ T, T = nmL x n lo hi 61 p 0 0 := ⟨_, rfl⟩
  refine j_aload_n 0 1 dX4_readNumber_0 rfl rfl ?_
  refine j_iconst 2 dX4_readNumber_1 rfl ?_
  refine j_put 0 6 1 5 [(_, .inr (_, [_, _, _, _, _, _, _, _])), _, _, _] tyX4 tyX4_ok nmX4 in_X4_readNumber_X4 dX4_readNumber_2 rfl rfl rfl (by decide) rfl rfl rfl rfl rfl (Nat.le_of_ble_eq_true rfl) rfl ?_
  refine j_iconst 6 dX4_readNumber_5 rfl ?_
  refine j_istore_n 7 [_, _, _, _] dX4_readNumber_6 rfl (by decide) rfl ?_
  have key127 : ∀ (q v d : Int), T = (q, v, d) → (0 ≤ v ∧ v ≤ 300) → (0 ≤ d ∧ d ≤ 100) → jG mX4_readNumber E C (jQi E C (nmZ x n lo hi p) (wPad E o a b c (x) (y) (z) (n) (nmP x n lo hi p) (pk) (nmV x n lo hi p) (pt))) 0 0 127 [(0, .ref o), (1, .int (jI lo)), (2, .int (jI hi)), (3, .int (jI d))] [] (wPad E o a b c (x) (y) (z) (n) (q) (pk) (v) (pt)) := by
    intro q v d he hv hd
    have eP : nmP x n lo hi p = q := by unfold nmP; rw [← hT, he]
    have eV : nmV x n lo hi p = v := by unfold nmV; rw [← hT, he]
    have eZ : nmZ x n lo hi p = if 0 < d ∧ lo ≤ v ∧ v ≤ hi then 1 else 0 := by unfold nmZ nmD nmV; rw [← hT, he]
    rw [eP, eV, eZ]
    refine j_iload_n 3 128 dX4_readNumber_127 rfl rfl ?_
    refine j_if_le 151 131 dX4_readNumber_128 rfl (by decide) (by omega) (fun h_128 => ?_) (fun h_128 => ?_)
    · skip
      refine j_iconst 152 dX4_readNumber_151 rfl ?_
      exact j_zret dX4_readNumber_152 rfl (by first | exact (if_pos (by omega)).symm | exact (if_neg (by omega)).symm) (by omega) (by rfl)
    · skip
      refine j_aload_n 0 132 dX4_readNumber_131 rfl rfl ?_
      refine j_get 0 6 1 135 in_X4_readNumber_X4 dX4_readNumber_132 rfl rfl rfl (by decide) rfl rfl ?_
      refine j_iload_n 1 136 dX4_readNumber_135 rfl rfl ?_
      refine j_icmp_lt 151 139 dX4_readNumber_136 rfl (by decide) (by omega) (by omega) (fun h_136 => ?_) (fun h_136 => ?_)
      · skip
        refine j_iconst 152 dX4_readNumber_151 rfl ?_
        exact j_zret dX4_readNumber_152 rfl (by first | exact (if_pos (by omega)).symm | exact (if_neg (by omega)).symm) (by omega) (by rfl)
      · skip
        refine j_aload_n 0 140 dX4_readNumber_139 rfl rfl ?_
        refine j_get 0 6 1 143 in_X4_readNumber_X4 dX4_readNumber_140 rfl rfl rfl (by decide) rfl rfl ?_
        refine j_iload_n 2 144 dX4_readNumber_143 rfl rfl ?_
        refine j_icmp_gt 151 147 dX4_readNumber_144 rfl (by decide) (by omega) (by omega) (fun h_144 => ?_) (fun h_144 => ?_)
        · skip
          refine j_iconst 152 dX4_readNumber_151 rfl ?_
          exact j_zret dX4_readNumber_152 rfl (by first | exact (if_pos (by omega)).symm | exact (if_neg (by omega)).symm) (by omega) (by rfl)
        · skip
          refine j_iconst 148 dX4_readNumber_147 rfl ?_
          refine j_goto 152 dX4_readNumber_148 (by decide) ?_
          exact j_zret dX4_readNumber_152 rfl (by first | exact (if_pos (by omega)).symm | exact (if_neg (by omega)).symm) (by omega) (by rfl)
  have key7 : ∀ (fu : Nat) (q v d : Int), n < q + fu → (0 ≤ q ∧ q ≤ n) → (0 ≤ v ∧ v ≤ hi) → (0 ≤ d ∧ d ≤ q) → T = nmL x n lo hi fu q v d → jG mX4_readNumber E C (jQi E C (nmZ x n lo hi p) (wPad E o a b c (x) (y) (z) (n) (nmP x n lo hi p) (pk) (nmV x n lo hi p) (pt))) 0 0 7 [(0, .ref o), (1, .int (jI lo)), (2, .int (jI hi)), (3, .int (jI d))] [] (wPad E o a b c (x) (y) (z) (n) (q) (pk) (v) (pt)) := by
    intro fu
    induction fu with
    | zero => intro q v d h1 h2 h3 h4 he; exact absurd h1 (by omega)
    | succ fu ih =>
      intro q v d h1 h2 h3 h4 he
      rw [nmL] at he
      refine j_aload_n 0 8 dX4_readNumber_7 rfl rfl ?_
      refine j_get 0 4 2 11 in_X4_readNumber_X4 dX4_readNumber_8 rfl rfl rfl (by decide) rfl rfl ?_
      refine j_aload_n 0 12 dX4_readNumber_11 rfl rfl ?_
      refine j_get 0 3 3 15 in_X4_readNumber_X4 dX4_readNumber_12 rfl rfl rfl (by decide) rfl rfl ?_
      refine j_icmp_ge 127 18 dX4_readNumber_15 rfl (by decide) (by omega) (by omega) (fun h_15 => ?_) (fun h_15 => ?_)
      · skip
        rw [if_neg (by omega)] at he
        exact key127 q v d he (by omega) (by omega)
      · skip
        have hxq := hx q
        refine j_aload_n 0 19 dX4_readNumber_18 rfl rfl ?_
        refine j_get 0 4 2 22 in_X4_readNumber_X4 dX4_readNumber_19 rfl rfl rfl (by decide) rfl rfl ?_
        refine j_bipush 24 dX4_readNumber_22 rfl (by decide) ?_
        refine j_icmp_ge 127 27 dX4_readNumber_24 rfl (by decide) (by omega) (by omega) (fun h_24 => ?_) (fun h_24 => ?_)
        · skip
          rw [if_neg (by omega)] at he
          exact key127 q v d he (by omega) (by omega)
        · skip
          refine j_aload_n 0 28 dX4_readNumber_27 rfl rfl ?_
          refine j_get 0 0 4 31 in_X4_readNumber_X4 dX4_readNumber_28 rfl rfl rfl (by decide) rfl rfl ?_
          refine j_aload_n 0 32 dX4_readNumber_31 rfl rfl ?_
          refine j_get 0 4 2 35 in_X4_readNumber_X4 dX4_readNumber_32 rfl rfl rfl (by decide) rfl rfl ?_
          refine j_iald 1 36 dX4_readNumber_35 rfl rfl (by decide) (by omega) ?_
          refine j_bipush 38 dX4_readNumber_36 rfl (by decide) ?_
          refine j_isub 39 dX4_readNumber_38 rfl ?_
          refine j_istore 41 [_, _, _, _, _] dX4_readNumber_39 rfl (by decide) rfl ?_
          refine j_iload_n 4 42 dX4_readNumber_41 rfl rfl ?_
          refine j_if_le 56 45 dX4_readNumber_42 rfl (by decide) (by omega) (fun h_42 => ?_) (fun h_42 => ?_)
          · skip
            refine j_iconst 57 dX4_readNumber_56 rfl ?_
            refine j_istore 59 [_, _, _, _, _, _] dX4_readNumber_57 rfl (by decide) rfl ?_
            refine j_iload 1 61 dX4_readNumber_59 rfl rfl ?_
            refine j_if_lt 127 64 dX4_readNumber_61 rfl (by decide) (by omega) (fun h_61 => ?_) (fun h_61 => ?_)
            · skip
              refine j_perm [2, 3, 4, 5] rfl ?_
              rw [if_neg (by omega)] at he
              exact key127 q v d he (by omega) (by omega)
            · skip
              refine j_iload 1 66 dX4_readNumber_64 rfl rfl ?_
              refine j_bipush 68 dX4_readNumber_66 rfl (by decide) ?_
              refine j_icmp_gt 127 71 dX4_readNumber_68 rfl (by decide) (by omega) (by omega) (fun h_68 => ?_) (fun h_68 => ?_)
              · skip
                refine j_perm [2, 3, 4, 5] rfl ?_
                rw [if_neg (by omega)] at he
                exact key127 q v d he (by omega) (by omega)
              · skip
                refine j_iload 0 73 dX4_readNumber_71 rfl rfl ?_
                refine j_if_ne 127 76 dX4_readNumber_73 rfl (by decide) (by omega) (fun h_73 => ?_) (fun h_73 => ?_)
                · skip
                  refine j_perm [2, 3, 4, 5] rfl ?_
                  rw [if_neg (by omega)] at he
                  exact key127 q v d he (by omega) (by omega)
                · skip
                  refine j_aload_n 2 77 dX4_readNumber_76 rfl rfl ?_
                  refine j_get 0 6 1 80 in_X4_readNumber_X4 dX4_readNumber_77 rfl rfl rfl (by decide) rfl rfl ?_
                  refine j_bipush 82 dX4_readNumber_80 rfl (by decide) ?_
                  refine j_imul 83 dX4_readNumber_82 rfl ?_
                  refine j_iload 1 85 dX4_readNumber_83 rfl rfl ?_
                  refine j_iadd 86 dX4_readNumber_85 rfl ?_
                  refine j_iload_n 3 87 dX4_readNumber_86 rfl rfl ?_
                  refine j_iload_n 4 88 dX4_readNumber_87 rfl rfl ?_
                  refine j_callSi [] 91 [_, _, _, _] (c_X4_leadsInto E _ _ _ (by omega) (by omega) (by omega)) rfl kX4_readNumber_X4_leadsInto rfl rfl rfl rfl rfl (Nat.le_of_ble_eq_true rfl) (by decide) dX4_readNumber_88 rfl ?_
                  have hl := ldF_01 (v * 10 + (x q - 48)) lo hi
                  refine j_if_ne 97 94 dX4_readNumber_91 rfl (by decide) (by omega) (fun h_91 => ?_) (fun h_91 => ?_)
                  · skip
                    refine j_aload_n 2 98 dX4_readNumber_97 rfl rfl ?_
                    refine j_aload_n 2 99 dX4_readNumber_98 rfl rfl ?_
                    refine j_get 0 6 1 102 in_X4_readNumber_X4 dX4_readNumber_99 rfl rfl rfl (by decide) rfl rfl ?_
                    refine j_bipush 104 dX4_readNumber_102 rfl (by decide) ?_
                    refine j_imul 105 dX4_readNumber_104 rfl ?_
                    refine j_iload 1 107 dX4_readNumber_105 rfl rfl ?_
                    refine j_iadd 108 dX4_readNumber_107 rfl ?_
                    refine j_put 0 6 1 111 [(_, .inr (_, [_, _, _, _, _, _, _, _])), _, _, _] tyX4 tyX4_ok nmX4 in_X4_readNumber_X4 dX4_readNumber_108 rfl rfl rfl (by decide) rfl rfl rfl rfl rfl (Nat.le_of_ble_eq_true rfl) rfl ?_
                    refine j_iinc 5 114 [_, _, _, _, _, _] dX4_readNumber_111 rfl rfl (by decide) rfl ?_
                    refine j_aload_n 3 115 dX4_readNumber_114 rfl rfl ?_
                    refine j_dup 116 dX4_readNumber_115 rfl rfl ?_
                    refine j_get 0 4 2 119 in_X4_readNumber_X4 dX4_readNumber_116 rfl rfl rfl (by decide) rfl rfl ?_
                    refine j_iconst 120 dX4_readNumber_119 rfl ?_
                    refine j_iadd 121 dX4_readNumber_120 rfl ?_
                    refine j_put 0 4 2 124 [(_, .inr (_, [_, _, _, _, _, _, _, _])), _, _, _] tyX4 tyX4_ok nmX4 in_X4_readNumber_X4 dX4_readNumber_121 rfl rfl rfl (by decide) rfl rfl rfl rfl rfl (Nat.le_of_ble_eq_true rfl) rfl ?_
                    refine j_goto 7 dX4_readNumber_124 (by decide) ?_
                    have key127 : ∀ (q v d : Int), T = (q, v, d) → (0 ≤ v ∧ v ≤ 300) → (0 ≤ d ∧ d ≤ 100) → jG mX4_readNumber E C (jQi E C (nmZ x n lo hi p) (wPad E o a b c (x) (y) (z) (n) (nmP x n lo hi p) (pk) (nmV x n lo hi p) (pt))) 0 0 127 [(0, .ref o), (1, .int (jI lo)), (2, .int (jI hi)), (3, .int (jI d))] [] (wPad E o a b c (x) (y) (z) (n) (q) (pk) (v) (pt)) := by
                      intro q v d he hv hd
                      have eP : nmP x n lo hi p = q := by unfold nmP; rw [← hT, he]
                      have eV : nmV x n lo hi p = v := by unfold nmV; rw [← hT, he]
                      have eZ : nmZ x n lo hi p = if 0 < d ∧ lo ≤ v ∧ v ≤ hi then 1 else 0 := by unfold nmZ nmD nmV; rw [← hT, he]
                      rw [eP, eV, eZ]
                      refine j_iload_n 3 128 dX4_readNumber_127 rfl rfl ?_
                      refine j_if_le 151 131 dX4_readNumber_128 rfl (by decide) (by omega) (fun h_128 => ?_) (fun h_128 => ?_)
                      · skip
                        refine j_iconst 152 dX4_readNumber_151 rfl ?_
                        exact j_zret dX4_readNumber_152 rfl (by first | exact (if_pos (by omega)).symm | exact (if_neg (by omega)).symm) (by omega) (by rfl)
                      · skip
                        refine j_aload_n 0 132 dX4_readNumber_131 rfl rfl ?_
                        refine j_get 0 6 1 135 in_X4_readNumber_X4 dX4_readNumber_132 rfl rfl rfl (by decide) rfl rfl ?_
                        refine j_iload_n 1 136 dX4_readNumber_135 rfl rfl ?_
                        refine j_icmp_lt 151 139 dX4_readNumber_136 rfl (by decide) (by omega) (by omega) (fun h_136 => ?_) (fun h_136 => ?_)
                        · skip
                          refine j_iconst 152 dX4_readNumber_151 rfl ?_
                          exact j_zret dX4_readNumber_152 rfl (by first | exact (if_pos (by omega)).symm | exact (if_neg (by omega)).symm) (by omega) (by rfl)
                        · skip
                          refine j_aload_n 0 140 dX4_readNumber_139 rfl rfl ?_
                          refine j_get 0 6 1 143 in_X4_readNumber_X4 dX4_readNumber_140 rfl rfl rfl (by decide) rfl rfl ?_
                          refine j_iload_n 2 144 dX4_readNumber_143 rfl rfl ?_
                          refine j_icmp_gt 151 147 dX4_readNumber_144 rfl (by decide) (by omega) (by omega) (fun h_144 => ?_) (fun h_144 => ?_)
                          · skip
                            refine j_iconst 152 dX4_readNumber_151 rfl ?_
                            exact j_zret dX4_readNumber_152 rfl (by first | exact (if_pos (by omega)).symm | exact (if_neg (by omega)).symm) (by omega) (by rfl)
                          · skip
                            refine j_iconst 148 dX4_readNumber_147 rfl ?_
                            refine j_goto 152 dX4_readNumber_148 (by decide) ?_
                            exact j_zret dX4_readNumber_152 rfl (by first | exact (if_pos (by omega)).symm | exact (if_neg (by omega)).symm) (by omega) (by rfl)
                    refine j_perm [3, 4, 5, 0] rfl ?_
                    rw [if_pos (by omega)] at he
                    exact ih (q + 1) (v * 10 + (x q - 48)) (d + 1) (by omega) (by omega) (by have := ldF_le (s := v * 10 + (x q - 48)) (lo := lo) (hi := hi) (by omega) (by omega) (by omega); omega) (by omega) he
                  · skip
                    refine j_goto 127 dX4_readNumber_94 (by decide) ?_
                    refine j_perm [2, 3, 4, 5] rfl ?_
                    rw [if_neg (by omega)] at he
                    exact key127 q v d he (by omega) (by omega)
          · skip
            refine j_aload_n 1 46 dX4_readNumber_45 rfl rfl ?_
            refine j_get 0 6 1 49 in_X4_readNumber_X4 dX4_readNumber_46 rfl rfl rfl (by decide) rfl rfl ?_
            refine j_if_ne 56 52 dX4_readNumber_49 rfl (by decide) (by omega) (fun h_49 => ?_) (fun h_49 => ?_)
            · skip
              refine j_iconst 57 dX4_readNumber_56 rfl ?_
              refine j_istore 59 [_, _, _, _, _, _] dX4_readNumber_57 rfl (by decide) rfl ?_
              refine j_iload 1 61 dX4_readNumber_59 rfl rfl ?_
              refine j_if_lt 127 64 dX4_readNumber_61 rfl (by decide) (by omega) (fun h_61 => ?_) (fun h_61 => ?_)
              · skip
                refine j_perm [2, 3, 4, 5] rfl ?_
                rw [if_neg (by omega)] at he
                exact key127 q v d he (by omega) (by omega)
              · skip
                refine j_iload 1 66 dX4_readNumber_64 rfl rfl ?_
                refine j_bipush 68 dX4_readNumber_66 rfl (by decide) ?_
                refine j_icmp_gt 127 71 dX4_readNumber_68 rfl (by decide) (by omega) (by omega) (fun h_68 => ?_) (fun h_68 => ?_)
                · skip
                  refine j_perm [2, 3, 4, 5] rfl ?_
                  rw [if_neg (by omega)] at he
                  exact key127 q v d he (by omega) (by omega)
                · skip
                  refine j_iload 0 73 dX4_readNumber_71 rfl rfl ?_
                  refine j_if_ne 127 76 dX4_readNumber_73 rfl (by decide) (by omega) (fun h_73 => ?_) (fun h_73 => ?_)
                  · skip
                    refine j_perm [2, 3, 4, 5] rfl ?_
                    rw [if_neg (by omega)] at he
                    exact key127 q v d he (by omega) (by omega)
                  · skip
                    refine j_aload_n 2 77 dX4_readNumber_76 rfl rfl ?_
                    refine j_get 0 6 1 80 in_X4_readNumber_X4 dX4_readNumber_77 rfl rfl rfl (by decide) rfl rfl ?_
                    refine j_bipush 82 dX4_readNumber_80 rfl (by decide) ?_
                    refine j_imul 83 dX4_readNumber_82 rfl ?_
                    refine j_iload 1 85 dX4_readNumber_83 rfl rfl ?_
                    refine j_iadd 86 dX4_readNumber_85 rfl ?_
                    refine j_iload_n 3 87 dX4_readNumber_86 rfl rfl ?_
                    refine j_iload_n 4 88 dX4_readNumber_87 rfl rfl ?_
                    refine j_callSi [] 91 [_, _, _, _] (c_X4_leadsInto E _ _ _ (by omega) (by omega) (by omega)) rfl kX4_readNumber_X4_leadsInto rfl rfl rfl rfl rfl (Nat.le_of_ble_eq_true rfl) (by decide) dX4_readNumber_88 rfl ?_
                    have hl := ldF_01 (v * 10 + (x q - 48)) lo hi
                    refine j_if_ne 97 94 dX4_readNumber_91 rfl (by decide) (by omega) (fun h_91 => ?_) (fun h_91 => ?_)
                    · skip
                      refine j_aload_n 2 98 dX4_readNumber_97 rfl rfl ?_
                      refine j_aload_n 2 99 dX4_readNumber_98 rfl rfl ?_
                      refine j_get 0 6 1 102 in_X4_readNumber_X4 dX4_readNumber_99 rfl rfl rfl (by decide) rfl rfl ?_
                      refine j_bipush 104 dX4_readNumber_102 rfl (by decide) ?_
                      refine j_imul 105 dX4_readNumber_104 rfl ?_
                      refine j_iload 1 107 dX4_readNumber_105 rfl rfl ?_
                      refine j_iadd 108 dX4_readNumber_107 rfl ?_
                      refine j_put 0 6 1 111 [(_, .inr (_, [_, _, _, _, _, _, _, _])), _, _, _] tyX4 tyX4_ok nmX4 in_X4_readNumber_X4 dX4_readNumber_108 rfl rfl rfl (by decide) rfl rfl rfl rfl rfl (Nat.le_of_ble_eq_true rfl) rfl ?_
                      refine j_iinc 5 114 [_, _, _, _, _, _] dX4_readNumber_111 rfl rfl (by decide) rfl ?_
                      refine j_aload_n 3 115 dX4_readNumber_114 rfl rfl ?_
                      refine j_dup 116 dX4_readNumber_115 rfl rfl ?_
                      refine j_get 0 4 2 119 in_X4_readNumber_X4 dX4_readNumber_116 rfl rfl rfl (by decide) rfl rfl ?_
                      refine j_iconst 120 dX4_readNumber_119 rfl ?_
                      refine j_iadd 121 dX4_readNumber_120 rfl ?_
                      refine j_put 0 4 2 124 [(_, .inr (_, [_, _, _, _, _, _, _, _])), _, _, _] tyX4 tyX4_ok nmX4 in_X4_readNumber_X4 dX4_readNumber_121 rfl rfl rfl (by decide) rfl rfl rfl rfl rfl (Nat.le_of_ble_eq_true rfl) rfl ?_
                      refine j_goto 7 dX4_readNumber_124 (by decide) ?_
                      have key127 : ∀ (q v d : Int), T = (q, v, d) → (0 ≤ v ∧ v ≤ 300) → (0 ≤ d ∧ d ≤ 100) → jG mX4_readNumber E C (jQi E C (nmZ x n lo hi p) (wPad E o a b c (x) (y) (z) (n) (nmP x n lo hi p) (pk) (nmV x n lo hi p) (pt))) 0 0 127 [(0, .ref o), (1, .int (jI lo)), (2, .int (jI hi)), (3, .int (jI d))] [] (wPad E o a b c (x) (y) (z) (n) (q) (pk) (v) (pt)) := by
                        intro q v d he hv hd
                        have eP : nmP x n lo hi p = q := by unfold nmP; rw [← hT, he]
                        have eV : nmV x n lo hi p = v := by unfold nmV; rw [← hT, he]
                        have eZ : nmZ x n lo hi p = if 0 < d ∧ lo ≤ v ∧ v ≤ hi then 1 else 0 := by unfold nmZ nmD nmV; rw [← hT, he]
                        rw [eP, eV, eZ]
                        refine j_iload_n 3 128 dX4_readNumber_127 rfl rfl ?_
                        refine j_if_le 151 131 dX4_readNumber_128 rfl (by decide) (by omega) (fun h_128 => ?_) (fun h_128 => ?_)
                        · skip
                          refine j_iconst 152 dX4_readNumber_151 rfl ?_
                          exact j_zret dX4_readNumber_152 rfl (by first | exact (if_pos (by omega)).symm | exact (if_neg (by omega)).symm) (by omega) (by rfl)
                        · skip
                          refine j_aload_n 0 132 dX4_readNumber_131 rfl rfl ?_
                          refine j_get 0 6 1 135 in_X4_readNumber_X4 dX4_readNumber_132 rfl rfl rfl (by decide) rfl rfl ?_
                          refine j_iload_n 1 136 dX4_readNumber_135 rfl rfl ?_
                          refine j_icmp_lt 151 139 dX4_readNumber_136 rfl (by decide) (by omega) (by omega) (fun h_136 => ?_) (fun h_136 => ?_)
                          · skip
                            refine j_iconst 152 dX4_readNumber_151 rfl ?_
                            exact j_zret dX4_readNumber_152 rfl (by first | exact (if_pos (by omega)).symm | exact (if_neg (by omega)).symm) (by omega) (by rfl)
                          · skip
                            refine j_aload_n 0 140 dX4_readNumber_139 rfl rfl ?_
                            refine j_get 0 6 1 143 in_X4_readNumber_X4 dX4_readNumber_140 rfl rfl rfl (by decide) rfl rfl ?_
                            refine j_iload_n 2 144 dX4_readNumber_143 rfl rfl ?_
                            refine j_icmp_gt 151 147 dX4_readNumber_144 rfl (by decide) (by omega) (by omega) (fun h_144 => ?_) (fun h_144 => ?_)
                            · skip
                              refine j_iconst 152 dX4_readNumber_151 rfl ?_
                              exact j_zret dX4_readNumber_152 rfl (by first | exact (if_pos (by omega)).symm | exact (if_neg (by omega)).symm) (by omega) (by rfl)
                            · skip
                              refine j_iconst 148 dX4_readNumber_147 rfl ?_
                              refine j_goto 152 dX4_readNumber_148 (by decide) ?_
                              exact j_zret dX4_readNumber_152 rfl (by first | exact (if_pos (by omega)).symm | exact (if_neg (by omega)).symm) (by omega) (by rfl)
                      refine j_perm [3, 4, 5, 0] rfl ?_
                      rw [if_pos (by omega)] at he
                      exact ih (q + 1) (v * 10 + (x q - 48)) (d + 1) (by omega) (by omega) (by have := ldF_le (s := v * 10 + (x q - 48)) (lo := lo) (hi := hi) (by omega) (by omega) (by omega); omega) (by omega) he
                    · skip
                      refine j_goto 127 dX4_readNumber_94 (by decide) ?_
                      refine j_perm [2, 3, 4, 5] rfl ?_
                      rw [if_neg (by omega)] at he
                      exact key127 q v d he (by omega) (by omega)
            · skip
              refine j_iconst 53 dX4_readNumber_52 rfl ?_
              refine j_goto 57 dX4_readNumber_53 (by decide) ?_
              refine j_istore 59 [_, _, _, _, _, _] dX4_readNumber_57 rfl (by decide) rfl ?_
              refine j_iload 1 61 dX4_readNumber_59 rfl rfl ?_
              refine j_if_lt 127 64 dX4_readNumber_61 rfl (by decide) (by omega) (fun h_61 => ?_) (fun h_61 => ?_)
              · skip
                refine j_perm [2, 3, 4, 5] rfl ?_
                rw [if_neg (by omega)] at he
                exact key127 q v d he (by omega) (by omega)
              · skip
                refine j_iload 1 66 dX4_readNumber_64 rfl rfl ?_
                refine j_bipush 68 dX4_readNumber_66 rfl (by decide) ?_
                refine j_icmp_gt 127 71 dX4_readNumber_68 rfl (by decide) (by omega) (by omega) (fun h_68 => ?_) (fun h_68 => ?_)
                · skip
                  refine j_perm [2, 3, 4, 5] rfl ?_
                  rw [if_neg (by omega)] at he
                  exact key127 q v d he (by omega) (by omega)
                · skip
                  refine j_iload 0 73 dX4_readNumber_71 rfl rfl ?_
                  refine j_if_ne 127 76 dX4_readNumber_73 rfl (by decide) (by omega) (fun h_73 => ?_) (fun h_73 => ?_)
                  · skip
                    refine j_perm [2, 3, 4, 5] rfl ?_
                    rw [if_neg (by omega)] at he
                    exact key127 q v d he (by omega) (by omega)
                  · skip
                    refine j_aload_n 2 77 dX4_readNumber_76 rfl rfl ?_
                    refine j_get 0 6 1 80 in_X4_readNumber_X4 dX4_readNumber_77 rfl rfl rfl (by decide) rfl rfl ?_
                    refine j_bipush 82 dX4_readNumber_80 rfl (by decide) ?_
                    refine j_imul 83 dX4_readNumber_82 rfl ?_
                    refine j_iload 1 85 dX4_readNumber_83 rfl rfl ?_
                    refine j_iadd 86 dX4_readNumber_85 rfl ?_
                    refine j_iload_n 3 87 dX4_readNumber_86 rfl rfl ?_
                    refine j_iload_n 4 88 dX4_readNumber_87 rfl rfl ?_
                    refine j_callSi [] 91 [_, _, _, _] (c_X4_leadsInto E _ _ _ (by omega) (by omega) (by omega)) rfl kX4_readNumber_X4_leadsInto rfl rfl rfl rfl rfl (Nat.le_of_ble_eq_true rfl) (by decide) dX4_readNumber_88 rfl ?_
                    have hl := ldF_01 (v * 10 + (x q - 48)) lo hi
                    refine j_if_ne 97 94 dX4_readNumber_91 rfl (by decide) (by omega) (fun h_91 => ?_) (fun h_91 => ?_)
                    · skip
                      refine j_aload_n 2 98 dX4_readNumber_97 rfl rfl ?_
                      refine j_aload_n 2 99 dX4_readNumber_98 rfl rfl ?_
                      refine j_get 0 6 1 102 in_X4_readNumber_X4 dX4_readNumber_99 rfl rfl rfl (by decide) rfl rfl ?_
                      refine j_bipush 104 dX4_readNumber_102 rfl (by decide) ?_
                      refine j_imul 105 dX4_readNumber_104 rfl ?_
                      refine j_iload 1 107 dX4_readNumber_105 rfl rfl ?_
                      refine j_iadd 108 dX4_readNumber_107 rfl ?_
                      refine j_put 0 6 1 111 [(_, .inr (_, [_, _, _, _, _, _, _, _])), _, _, _] tyX4 tyX4_ok nmX4 in_X4_readNumber_X4 dX4_readNumber_108 rfl rfl rfl (by decide) rfl rfl rfl rfl rfl (Nat.le_of_ble_eq_true rfl) rfl ?_
                      refine j_iinc 5 114 [_, _, _, _, _, _] dX4_readNumber_111 rfl rfl (by decide) rfl ?_
                      refine j_aload_n 3 115 dX4_readNumber_114 rfl rfl ?_
                      refine j_dup 116 dX4_readNumber_115 rfl rfl ?_
                      refine j_get 0 4 2 119 in_X4_readNumber_X4 dX4_readNumber_116 rfl rfl rfl (by decide) rfl rfl ?_
                      refine j_iconst 120 dX4_readNumber_119 rfl ?_
                      refine j_iadd 121 dX4_readNumber_120 rfl ?_
                      refine j_put 0 4 2 124 [(_, .inr (_, [_, _, _, _, _, _, _, _])), _, _, _] tyX4 tyX4_ok nmX4 in_X4_readNumber_X4 dX4_readNumber_121 rfl rfl rfl (by decide) rfl rfl rfl rfl rfl (Nat.le_of_ble_eq_true rfl) rfl ?_
                      refine j_goto 7 dX4_readNumber_124 (by decide) ?_
                      have key127 : ∀ (q v d : Int), T = (q, v, d) → (0 ≤ v ∧ v ≤ 300) → (0 ≤ d ∧ d ≤ 100) → jG mX4_readNumber E C (jQi E C (nmZ x n lo hi p) (wPad E o a b c (x) (y) (z) (n) (nmP x n lo hi p) (pk) (nmV x n lo hi p) (pt))) 0 0 127 [(0, .ref o), (1, .int (jI lo)), (2, .int (jI hi)), (3, .int (jI d))] [] (wPad E o a b c (x) (y) (z) (n) (q) (pk) (v) (pt)) := by
                        intro q v d he hv hd
                        have eP : nmP x n lo hi p = q := by unfold nmP; rw [← hT, he]
                        have eV : nmV x n lo hi p = v := by unfold nmV; rw [← hT, he]
                        have eZ : nmZ x n lo hi p = if 0 < d ∧ lo ≤ v ∧ v ≤ hi then 1 else 0 := by unfold nmZ nmD nmV; rw [← hT, he]
                        rw [eP, eV, eZ]
                        refine j_iload_n 3 128 dX4_readNumber_127 rfl rfl ?_
                        refine j_if_le 151 131 dX4_readNumber_128 rfl (by decide) (by omega) (fun h_128 => ?_) (fun h_128 => ?_)
                        · skip
                          refine j_iconst 152 dX4_readNumber_151 rfl ?_
                          exact j_zret dX4_readNumber_152 rfl (by first | exact (if_pos (by omega)).symm | exact (if_neg (by omega)).symm) (by omega) (by rfl)
                        · skip
                          refine j_aload_n 0 132 dX4_readNumber_131 rfl rfl ?_
                          refine j_get 0 6 1 135 in_X4_readNumber_X4 dX4_readNumber_132 rfl rfl rfl (by decide) rfl rfl ?_
                          refine j_iload_n 1 136 dX4_readNumber_135 rfl rfl ?_
                          refine j_icmp_lt 151 139 dX4_readNumber_136 rfl (by decide) (by omega) (by omega) (fun h_136 => ?_) (fun h_136 => ?_)
                          · skip
                            refine j_iconst 152 dX4_readNumber_151 rfl ?_
                            exact j_zret dX4_readNumber_152 rfl (by first | exact (if_pos (by omega)).symm | exact (if_neg (by omega)).symm) (by omega) (by rfl)
                          · skip
                            refine j_aload_n 0 140 dX4_readNumber_139 rfl rfl ?_
                            refine j_get 0 6 1 143 in_X4_readNumber_X4 dX4_readNumber_140 rfl rfl rfl (by decide) rfl rfl ?_
                            refine j_iload_n 2 144 dX4_readNumber_143 rfl rfl ?_
                            refine j_icmp_gt 151 147 dX4_readNumber_144 rfl (by decide) (by omega) (by omega) (fun h_144 => ?_) (fun h_144 => ?_)
                            · skip
                              refine j_iconst 152 dX4_readNumber_151 rfl ?_
                              exact j_zret dX4_readNumber_152 rfl (by first | exact (if_pos (by omega)).symm | exact (if_neg (by omega)).symm) (by omega) (by rfl)
                            · skip
                              refine j_iconst 148 dX4_readNumber_147 rfl ?_
                              refine j_goto 152 dX4_readNumber_148 (by decide) ?_
                              exact j_zret dX4_readNumber_152 rfl (by first | exact (if_pos (by omega)).symm | exact (if_neg (by omega)).symm) (by omega) (by rfl)
                      refine j_perm [3, 4, 5, 0] rfl ?_
                      rw [if_pos (by omega)] at he
                      exact ih (q + 1) (v * 10 + (x q - 48)) (d + 1) (by omega) (by omega) (by have := ldF_le (s := v * 10 + (x q - 48)) (lo := lo) (hi := hi) (by omega) (by omega) (by omega); omega) (by omega) he
                    · skip
                      refine j_goto 127 dX4_readNumber_94 (by decide) ?_
                      refine j_perm [2, 3, 4, 5] rfl ?_
                      rw [if_neg (by omega)] at he
                      exact key127 q v d he (by omega) (by omega)
  refine j_perm [1, 2, 3, 0] rfl ?_
  exact key7 61 p 0 0 (by omega) (by omega) (by omega) (by omega) hT
theorem kX4_readTraits_X4_take : jKv mX4_readTraits 52 yX4_take wsX4_take rmX4_take 1 := ⟨gX4_readTraits_X4_take, ⟨_, _, _, _, rfl, by decide⟩, by decide +kernel, rfl, rfl, by decide⟩
theorem kX4_readTraits_X4_readNumber : jKv mX4_readTraits 56 yX4_readNumber wsX4_readNumber rmX4_readNumber 2 := ⟨gX4_readTraits_X4_readNumber, ⟨_, _, _, _, rfl, by decide⟩, by decide +kernel, rfl, rfl, by decide⟩
set_option maxRecDepth 20000 in
theorem in_X4_readTraits_X4 : ∀ x ∈ u_ws RX4 TX4 8, x ∈ wsX4_readTraits := by decide +kernel
theorem kX4_readTraits_X6_of : jKs mX4_readTraits 60 yX6_of wsX6_of rmX6_of 3 := ⟨gX4_readTraits_X6_of, ⟨_, _, _, _, rfl, by decide⟩, by decide +kernel, rfl, rfl, by decide⟩
set_option maxRecDepth 100000 in
set_option maxHeartbeats 4000000 in
theorem c_X4_readTraits (E : jE) (o a b c : Nat) (x y z : Int → Int) (n p pk pn pt : Int) (hn : 0 ≤ n ∧ n ≤ 60) (hp : 0 ≤ p ∧ p ≤ n) (hx : ∀ i, 0 ≤ x i ∧ x i < 1000) : jMI E yX4_readTraits wsX4_readTraits rmX4_readTraits [.ref o] (wPad E o a b c x y z n p pk pn pt) ((th1 x n p pn pt).1) (wPad E o a b c (x) (y) (z) (n) ((th1 x n p pn pt).2.1) (pk) ((th1 x n p pn pt).2.2.1) ((th1 x n p pn pt).2.2.2)) := by
  refine jMI_of (cc := cX4_readTraits) (maxL := 3) (ret := (some .boolean)) [(0, .ref o)] (by decide) rfl rfl (Nat.le_of_ble_eq_true rfl) (fun C => ?_)
  show jG mX4_readTraits E C (jQi E C ((th1 x n p pn pt).1) (wPad E o a b c (x) (y) (z) (n) ((th1 x n p pn pt).2.1) (pk) ((th1 x n p pn pt).2.2.1) ((th1 x n p pn pt).2.2.2))) 0 0 0 [(0, .ref o)] [] (wPad E o a b c x y z n p pk pn pt)
  refine j_aload_n 0 1 dX4_readTraits_0 rfl rfl ?_
  refine j_bipush 3 dX4_readTraits_1 rfl (by decide) ?_
  refine j_callVi 0 [0, 1, 2, 3] 6 [_, _, _, _] (c_X4_take E _ _ _ _ _ _ _ _ _ _ _ _ _ (by omega) (by omega) (by assumption) (by omega)) rfl kX4_readTraits_X4_take rfl rfl rfl rfl rfl rfl rfl (Nat.le_of_ble_eq_true rfl) (by decide) dX4_readTraits_3 rfl ?_
  refine j_if_eq 21 9 dX4_readTraits_6 rfl (by decide) (by have := tkP_01 x n 119 p; omega) (fun h_6 => ?_) (fun h_6 => ?_)
  · skip
    rw [th1, if_pos h_6, h_6, Int.add_zero]
    refine j_iconst 22 dX4_readTraits_21 rfl ?_
    exact j_zret dX4_readTraits_22 rfl (by rfl) (by omega) (by rfl)
  · skip
    have g1 := tkP_1 h_6
    rw [g1.1, th1, if_neg h_6]
    have r1 := nm_rng (x := x) (n := n) (lo := 50) (hi := 300) (p := p + 1) (by omega) (by omega)
    have z1 := nmZ_01 x n 50 300 (p + 1)
    refine j_aload_n 0 10 dX4_readTraits_9 rfl rfl ?_
    refine j_bipush 12 dX4_readTraits_10 rfl (by decide) ?_
    refine j_sipush 15 dX4_readTraits_12 rfl (by decide) ?_
    refine j_callVi 0 [0, 1, 2, 3] 18 [_, _, _, _] (c_X4_readNumber E _ _ _ _ _ _ _ _ _ _ _ _ _ _ (by omega) (by omega) (by assumption) (by omega) (by omega)) rfl kX4_readTraits_X4_readNumber rfl rfl rfl rfl rfl rfl rfl (Nat.le_of_ble_eq_true rfl) (by decide) dX4_readTraits_15 rfl ?_
    refine j_if_ne 23 21 dX4_readTraits_18 rfl (by decide) (by omega) (fun h_18 => ?_) (fun h_18 => ?_)
    · skip
      rw [if_neg h_18, th2]
      generalize nmP x n 50 300 (p + 1) = p2 at r1 ⊢
      refine j_aload_n 0 24 dX4_readTraits_23 rfl rfl ?_
      refine j_get 0 6 1 27 in_X4_readTraits_X4 dX4_readTraits_24 rfl rfl rfl (by decide) rfl rfl ?_
      refine j_istore_n 28 [_, _] dX4_readTraits_27 rfl (by decide) rfl ?_
      refine j_aload_n 1 29 dX4_readTraits_28 rfl rfl ?_
      refine j_bipush 31 dX4_readTraits_29 rfl (by decide) ?_
      refine j_callVi 0 [0, 1, 2, 3] 34 [_, _, _, _] (c_X4_take E _ _ _ _ _ _ _ _ _ _ _ _ _ (by omega) (by omega) (by assumption) (by omega)) rfl kX4_readTraits_X4_take rfl rfl rfl rfl rfl rfl rfl (Nat.le_of_ble_eq_true rfl) (by decide) dX4_readTraits_31 rfl ?_
      refine j_if_eq 47 37 dX4_readTraits_34 rfl (by decide) (by have := tkP_01 x n 114 p2; omega) (fun h_34 => ?_) (fun h_34 => ?_)
      · skip
        rw [if_pos h_34, h_34, Int.add_zero]
        refine j_iconst 48 dX4_readTraits_47 rfl ?_
        exact j_zret dX4_readTraits_48 rfl (by rfl) (by omega) (by rfl)
      · skip
        have g2 := tkP_1 h_34
        rw [if_neg h_34, g2.1]
        have r2 := nm_rng (x := x) (n := n) (lo := 0) (hi := 100) (p := p2 + 1) (by omega) (by omega)
        have z2 := nmZ_01 x n 0 100 (p2 + 1)
        refine j_aload_n 1 38 dX4_readTraits_37 rfl rfl ?_
        refine j_iconst 39 dX4_readTraits_38 rfl ?_
        refine j_bipush 41 dX4_readTraits_39 rfl (by decide) ?_
        refine j_callVi 0 [0, 1, 2, 3] 44 [_, _, _, _] (c_X4_readNumber E _ _ _ _ _ _ _ _ _ _ _ _ _ _ (by omega) (by omega) (by assumption) (by omega) (by omega)) rfl kX4_readTraits_X4_readNumber rfl rfl rfl rfl rfl rfl rfl (Nat.le_of_ble_eq_true rfl) (by decide) dX4_readTraits_41 rfl ?_
        refine j_if_ne 49 47 dX4_readTraits_44 rfl (by decide) (by omega) (fun h_44 => ?_) (fun h_44 => ?_)
        · skip
          rw [if_neg h_44, th3]
          generalize nmP x n 0 100 (p2 + 1) = p3 at r2 ⊢
          refine j_aload_n 1 50 dX4_readTraits_49 rfl rfl ?_
          refine j_get 0 6 1 53 in_X4_readTraits_X4 dX4_readTraits_50 rfl rfl rfl (by decide) rfl rfl ?_
          refine j_istore_n 54 [_, _, _] dX4_readTraits_53 rfl (by decide) rfl ?_
          refine j_aload_n 2 55 dX4_readTraits_54 rfl rfl ?_
          refine j_bipush 57 dX4_readTraits_55 rfl (by decide) ?_
          refine j_callVi 0 [0, 1, 2, 3] 60 [_, _, _, _] (c_X4_take E _ _ _ _ _ _ _ _ _ _ _ _ _ (by omega) (by omega) (by assumption) (by omega)) rfl kX4_readTraits_X4_take rfl rfl rfl rfl rfl rfl rfl (Nat.le_of_ble_eq_true rfl) (by decide) dX4_readTraits_57 rfl ?_
          refine j_if_eq 73 63 dX4_readTraits_60 rfl (by decide) (by have := tkP_01 x n 98 p3; omega) (fun h_60 => ?_) (fun h_60 => ?_)
          · skip
            rw [if_pos h_60, h_60, Int.add_zero]
            refine j_iconst 74 dX4_readTraits_73 rfl ?_
            exact j_zret dX4_readTraits_74 rfl (by rfl) (by omega) (by rfl)
          · skip
            have g3 := tkP_1 h_60
            rw [if_neg h_60, g3.1]
            have r3 := nm_rng (x := x) (n := n) (lo := 0) (hi := 9) (p := p3 + 1) (by omega) (by omega)
            have z3 := nmZ_01 x n 0 9 (p3 + 1)
            refine j_aload_n 2 64 dX4_readTraits_63 rfl rfl ?_
            refine j_iconst 65 dX4_readTraits_64 rfl ?_
            refine j_bipush 67 dX4_readTraits_65 rfl (by decide) ?_
            refine j_callVi 0 [0, 1, 2, 3] 70 [_, _, _, _] (c_X4_readNumber E _ _ _ _ _ _ _ _ _ _ _ _ _ _ (by omega) (by omega) (by assumption) (by omega) (by omega)) rfl kX4_readTraits_X4_readNumber rfl rfl rfl rfl rfl rfl rfl (Nat.le_of_ble_eq_true rfl) (by decide) dX4_readTraits_67 rfl ?_
            refine j_if_ne 75 73 dX4_readTraits_70 rfl (by decide) (by omega) (fun h_70 => ?_) (fun h_70 => ?_)
            · skip
              rw [if_neg h_70]
              refine j_aload_n 2 76 dX4_readTraits_75 rfl rfl ?_
              refine j_iload_n 1 77 dX4_readTraits_76 rfl rfl ?_
              refine j_iload_n 0 78 dX4_readTraits_77 rfl rfl ?_
              refine j_aload_n 2 79 dX4_readTraits_78 rfl rfl ?_
              refine j_get 0 6 1 82 in_X4_readTraits_X4 dX4_readTraits_79 rfl rfl rfl (by decide) rfl rfl ?_
              refine j_callSi [] 85 [_, _, _, _] (c_X6_of E _ _ _ ) rfl kX4_readTraits_X6_of rfl rfl rfl rfl rfl (Nat.le_of_ble_eq_true rfl) (by decide) dX4_readTraits_82 rfl ?_
              refine j_put 0 7 2 88 [(_, .inr (_, [_, _, _, _, _, _, _, _])), _, _, _] tyX4 tyX4_ok nmX4 in_X4_readTraits_X4 dX4_readTraits_85 rfl rfl rfl (by decide) rfl rfl rfl rfl rfl (Nat.le_of_ble_eq_true rfl) rfl ?_
              refine j_iconst 89 dX4_readTraits_88 rfl ?_
              exact j_zret dX4_readTraits_89 rfl (by rfl) (by omega) (by rfl)
            · skip
              rw [if_pos (by omega)]
              refine j_iconst 74 dX4_readTraits_73 rfl ?_
              exact j_zret dX4_readTraits_74 rfl (by rfl) (by omega) (by rfl)
        · skip
          rw [if_pos (by omega)]
          refine j_iconst 48 dX4_readTraits_47 rfl ?_
          exact j_zret dX4_readTraits_48 rfl (by rfl) (by omega) (by rfl)
    · skip
      rw [if_pos (by omega)]
      refine j_iconst 22 dX4_readTraits_21 rfl ?_
      exact j_zret dX4_readTraits_22 rfl (by rfl) (by omega) (by rfl)
theorem kX4_readApples_X4_startReading : jKv mX4_readApples 37 yX4_startReading wsX4_startReading rmX4_startReading 0 := ⟨gX4_readApples_X4_startReading, ⟨_, _, _, _, rfl, by decide⟩, by decide +kernel, rfl, rfl, by decide⟩
theorem kX4_readApples_X4_readKind : jKv mX4_readApples 40 yX4_readKind wsX4_readKind rmX4_readKind 1 := ⟨gX4_readApples_X4_readKind, ⟨_, _, _, _, rfl, by decide⟩, by decide +kernel, rfl, rfl, by decide⟩
theorem kX4_readApples_X4_addPart : jKv mX4_readApples 48 yX4_addPart wsX4_addPart rmX4_addPart 1 := ⟨gX4_readApples_X4_addPart, ⟨_, _, _, _, rfl, by decide⟩, by decide +kernel, rfl, rfl, by decide⟩
set_option maxRecDepth 20000 in
theorem in_X4_readApples_X4 : ∀ x ∈ u_ws RX4 TX4 8, x ∈ wsX4_readApples := by decide +kernel
theorem kX4_readApples_X4_take : jKv mX4_readApples 52 yX4_take wsX4_take rmX4_take 1 := ⟨gX4_readApples_X4_take, ⟨_, _, _, _, rfl, by decide⟩, by decide +kernel, rfl, rfl, by decide⟩
theorem kX4_readApples_X4_readTraits : jKv mX4_readApples 44 yX4_readTraits wsX4_readTraits rmX4_readTraits 0 := ⟨gX4_readApples_X4_readTraits, ⟨_, _, _, _, rfl, by decide⟩, by decide +kernel, rfl, rfl, by decide⟩
set_option maxRecDepth 100000 in
set_option maxHeartbeats 4000000 in
theorem c_X4_readApples (E : jE) (o a b c : Nat) (x y z : Int → Int) (n p pk pn pt : Int) (hn : 0 ≤ n ∧ n ≤ 60) (hx : ∀ i, 0 ≤ x i ∧ x i < 1000) : jMI E yX4_readApples wsX4_readApples rmX4_readApples [.ref o] (wPad E o a b c x y z n p pk pn pt) ((rA x n 60 0 0 0 pn 0 y z).1) (wPadR E o a b c x n (rA x n 60 0 0 0 pn 0 y z)) := by
  refine jMI_of (cc := cX4_readApples) (maxL := 4) (ret := (some .boolean)) [(0, .ref o)] (by decide) rfl rfl (Nat.le_of_ble_eq_true rfl) (fun C => ?_)
  show jG mX4_readApples E C (jQi E C ((rA x n 60 0 0 0 pn 0 y z).1) (wPadR E o a b c x n (rA x n 60 0 0 0 pn 0 y z))) 0 0 0 [(0, .ref o)] [] (wPad E o a b c x y z n p pk pn pt)
  obtain ⟨T, hT⟩ : ∃ T, T = rA x n 60 0 0 0 pn 0 y z := ⟨_, rfl⟩
  rw [← hT]
  refine j_aload_n 0 1 dX4_readApples_0 rfl rfl ?_
  refine j_callVv 0 [0, 1, 2, 3] 4 [_, _, _, _] (c_X4_startReading E _ _ _ _ _ _ _ _ _ _ _ _ ) rfl kX4_readApples_X4_startReading rfl rfl rfl rfl rfl rfl rfl (Nat.le_of_ble_eq_true rfl) (by decide) dX4_readApples_1 rfl ?_
  refine j_iconst 5 dX4_readApples_4 rfl ?_
  refine j_istore_n 6 [_, _] dX4_readApples_5 rfl (by decide) rfl ?_
  refine j_iconst 7 dX4_readApples_6 rfl ?_
  refine j_istore_n 8 [_, _, _] dX4_readApples_7 rfl (by decide) rfl ?_
  have key8 : ∀ (fu : Nat) (i q d un ut : Int) (y1 z1 : Int → Int), i + fu = 60 → 0 ≤ i → (0 ≤ q ∧ q ≤ n) → (0 ≤ d ∧ d ≤ 2) → T = rA x n fu q d i un ut y1 z1 → jG mX4_readApples E C (jQi E C (T.1) (wPadR E o a b c x n T)) 0 0 8 [(0, .ref o), (1, .int (jI d)), (2, .int (jI i))] [] (wPad E o a b c (x) (y1) (z1) (n) (q) (i) (un) (ut)) := by
    intro fu
    induction fu with
    | zero =>
      intro i q d un ut y1 z1 h1 h2 h3 h4 he
      rw [he]
      obtain rfl : i = 60 := by omega
      refine j_iload_n 2 9 dX4_readApples_8 rfl rfl ?_
      refine j_bipush 11 dX4_readApples_9 rfl (by decide) ?_
      refine j_icmp_ge 70 14 dX4_readApples_11 rfl (by decide) (by omega) (by omega) (fun _ => ?_) (fun h => absurd h (by omega))
      refine j_iconst 71 dX4_readApples_70 rfl ?_
      exact j_zret dX4_readApples_71 rfl (by rfl) (by omega) (by rfl)
    | succ fu ih =>
      intro i q d un ut y1 z1 h1 h2 h3 h4 he
      rw [rA] at he
      have kk := kd_rng (x := x) (n := n) (b := d) (p := q) h3.2
      have pp := paP_rng (x := x) (n := n) (b := d) (p := q) (pn := un) (pt := ut) h3.2
      refine j_iload_n 2 9 dX4_readApples_8 rfl rfl ?_
      refine j_bipush 11 dX4_readApples_9 rfl (by decide) ?_
      refine j_icmp_ge 70 14 dX4_readApples_11 rfl (by decide) (by omega) (by omega) (fun h_11 => ?_) (fun h_11 => ?_)
      · skip
        exact absurd h_11 (by omega)
      · skip
        refine j_aload_n 0 15 dX4_readApples_14 rfl rfl ?_
        refine j_iload_n 1 16 dX4_readApples_15 rfl rfl ?_
        refine j_callVi 0 [0, 1, 2, 3] 19 [_, _, _, _] (c_X4_readKind E _ _ _ _ _ _ _ _ _ _ _ _ _ (by omega) (by omega) (by assumption) (by omega)) rfl kX4_readApples_X4_readKind rfl rfl rfl rfl rfl rfl rfl (Nat.le_of_ble_eq_true rfl) (by decide) dX4_readApples_16 rfl ?_
        refine j_istore_n 20 [_, _, _, _] dX4_readApples_19 rfl (by decide) rfl ?_
        refine j_iload_n 0 21 dX4_readApples_20 rfl rfl ?_
        refine j_if_eq 33 24 dX4_readApples_21 rfl (by decide) (by omega) (fun h_21 => ?_) (fun h_21 => ?_)
        · skip
          have e : paP x n d q un ut = (1, kdP x n d q, un, ut) := if_pos h_21
          rw [e] at he pp
          dsimp only at he pp
          rw [if_neg (by omega)] at he
          generalize hT : kdP x n d q = u1 at he pp kk ⊢
          refine j_aload_n 1 34 dX4_readApples_33 rfl rfl ?_
          refine j_iload_n 0 35 dX4_readApples_34 rfl rfl ?_
          refine j_callVv 0 [0, 1, 2, 3] 38 [_, _, _, _] (c_X4_addPart E _ _ _ _ _ _ _ _ _ _ _ _ _ (by omega)) rfl kX4_readApples_X4_addPart rfl rfl rfl rfl rfl rfl rfl (Nat.le_of_ble_eq_true rfl) (by decide) dX4_readApples_35 rfl ?_
          refine j_iload_n 0 39 dX4_readApples_38 rfl rfl ?_
          refine j_istore_n 40 [_, _, _, _] dX4_readApples_39 rfl (by decide) rfl ?_
          refine j_aload_n 2 41 dX4_readApples_40 rfl rfl ?_
          refine j_get 0 4 1 44 in_X4_readApples_X4 dX4_readApples_41 rfl rfl rfl (by decide) rfl rfl ?_
          refine j_aload_n 2 45 dX4_readApples_44 rfl rfl ?_
          refine j_get 0 3 2 48 in_X4_readApples_X4 dX4_readApples_45 rfl rfl rfl (by decide) rfl rfl ?_
          refine j_icmp_lt 53 51 dX4_readApples_48 rfl (by decide) (by omega) (by omega) (fun h_48 => ?_) (fun h_48 => ?_)
          · skip
            rw [if_neg (by omega)] at he
            refine j_aload_n 2 54 dX4_readApples_53 rfl rfl ?_
            refine j_bipush 56 dX4_readApples_54 rfl (by decide) ?_
            refine j_callVi 0 [0, 1, 2, 3] 59 [_, _, _, _] (c_X4_take E _ _ _ _ _ _ _ _ _ _ _ _ _ (by omega) (by omega) (by assumption) (by omega)) rfl kX4_readApples_X4_take rfl rfl rfl rfl rfl rfl rfl (Nat.le_of_ble_eq_true rfl) (by decide) dX4_readApples_56 rfl ?_
            refine j_if_ne 64 62 dX4_readApples_59 rfl (by decide) (by have := tkP_01 x n 44 u1; omega) (fun h_59 => ?_) (fun h_59 => ?_)
            · skip
              have g := tkP_1 h_59
              rw [g.1]
              refine j_iinc 3 67 [_, _, _, _] dX4_readApples_64 rfl rfl (by decide) rfl ?_
              refine j_goto 8 dX4_readApples_67 (by decide) ?_
              refine j_perm [3, 1, 0] rfl ?_
              rw [if_neg (by omega)] at he
              exact ih (i + 1) _ _ _ _ _ _ (by omega) (by omega) (by omega) (by omega) he
            · skip
              rw [if_pos (by omega)] at he
              rw [he]
              rw [show tkP x n 44 u1 = 0 by omega, Int.add_zero]
              refine j_iconst 63 dX4_readApples_62 rfl ?_
              exact j_zret dX4_readApples_63 rfl (by rfl) (by omega) (by rfl)
          · skip
            rw [if_pos (by omega)] at he
            rw [he]
            refine j_iconst 52 dX4_readApples_51 rfl ?_
            exact j_zret dX4_readApples_52 rfl (by rfl) (by omega) (by rfl)
        · skip
          have e : paP x n d q un ut = th1 x n (kdP x n d q) un ut := if_neg h_21
          rw [e] at he pp
          refine j_aload_n 1 25 dX4_readApples_24 rfl rfl ?_
          refine j_callVi 0 [0, 1, 2, 3] 28 [_, _, _, _] (c_X4_readTraits E _ _ _ _ _ _ _ _ _ _ _ _ (by omega) (by omega) (by assumption)) rfl kX4_readApples_X4_readTraits rfl rfl rfl rfl rfl rfl rfl (Nat.le_of_ble_eq_true rfl) (by decide) dX4_readApples_25 rfl ?_
          refine j_if_ne 33 31 dX4_readApples_28 rfl (by decide) (by omega) (fun h_28 => ?_) (fun h_28 => ?_)
          · skip
            rw [if_neg h_28] at he
            generalize (th1 x n (kdP x n d q) un ut).2.1 = u1 at he pp ⊢
            generalize (th1 x n (kdP x n d q) un ut).2.2.1 = u2 at he ⊢
            generalize (th1 x n (kdP x n d q) un ut).2.2.2 = u3 at he ⊢
            refine j_aload_n 1 34 dX4_readApples_33 rfl rfl ?_
            refine j_iload_n 0 35 dX4_readApples_34 rfl rfl ?_
            refine j_callVv 0 [0, 1, 2, 3] 38 [_, _, _, _] (c_X4_addPart E _ _ _ _ _ _ _ _ _ _ _ _ _ (by omega)) rfl kX4_readApples_X4_addPart rfl rfl rfl rfl rfl rfl rfl (Nat.le_of_ble_eq_true rfl) (by decide) dX4_readApples_35 rfl ?_
            refine j_iload_n 0 39 dX4_readApples_38 rfl rfl ?_
            refine j_istore_n 40 [_, _, _, _] dX4_readApples_39 rfl (by decide) rfl ?_
            refine j_aload_n 2 41 dX4_readApples_40 rfl rfl ?_
            refine j_get 0 4 1 44 in_X4_readApples_X4 dX4_readApples_41 rfl rfl rfl (by decide) rfl rfl ?_
            refine j_aload_n 2 45 dX4_readApples_44 rfl rfl ?_
            refine j_get 0 3 2 48 in_X4_readApples_X4 dX4_readApples_45 rfl rfl rfl (by decide) rfl rfl ?_
            refine j_icmp_lt 53 51 dX4_readApples_48 rfl (by decide) (by omega) (by omega) (fun h_48 => ?_) (fun h_48 => ?_)
            · skip
              rw [if_neg (by omega)] at he
              refine j_aload_n 2 54 dX4_readApples_53 rfl rfl ?_
              refine j_bipush 56 dX4_readApples_54 rfl (by decide) ?_
              refine j_callVi 0 [0, 1, 2, 3] 59 [_, _, _, _] (c_X4_take E _ _ _ _ _ _ _ _ _ _ _ _ _ (by omega) (by omega) (by assumption) (by omega)) rfl kX4_readApples_X4_take rfl rfl rfl rfl rfl rfl rfl (Nat.le_of_ble_eq_true rfl) (by decide) dX4_readApples_56 rfl ?_
              refine j_if_ne 64 62 dX4_readApples_59 rfl (by decide) (by have := tkP_01 x n 44 u1; omega) (fun h_59 => ?_) (fun h_59 => ?_)
              · skip
                have g := tkP_1 h_59
                rw [g.1]
                refine j_iinc 3 67 [_, _, _, _] dX4_readApples_64 rfl rfl (by decide) rfl ?_
                refine j_goto 8 dX4_readApples_67 (by decide) ?_
                refine j_perm [3, 1, 0] rfl ?_
                rw [if_neg (by omega)] at he
                exact ih (i + 1) _ _ _ _ _ _ (by omega) (by omega) (by omega) (by omega) he
              · skip
                rw [if_pos (by omega)] at he
                rw [he]
                rw [show tkP x n 44 u1 = 0 by omega, Int.add_zero]
                refine j_iconst 63 dX4_readApples_62 rfl ?_
                exact j_zret dX4_readApples_63 rfl (by rfl) (by omega) (by rfl)
            · skip
              rw [if_pos (by omega)] at he
              rw [he]
              refine j_iconst 52 dX4_readApples_51 rfl ?_
              exact j_zret dX4_readApples_52 rfl (by rfl) (by omega) (by rfl)
          · skip
            rw [if_pos (by omega)] at he
            rw [he]
            refine j_iconst 32 dX4_readApples_31 rfl ?_
            exact j_zret dX4_readApples_32 rfl (by rfl) (by omega) (by rfl)
  refine j_perm [2, 1, 0] rfl ?_
  exact key8 60 0 0 0 pn 0 y z (by omega) (by omega) (by omega) (by omega) hT
theorem kX4_readRules_X4_startReading : jKv mX4_readRules 37 yX4_startReading wsX4_startReading rmX4_startReading 0 := ⟨gX4_readRules_X4_startReading, ⟨_, _, _, _, rfl, by decide⟩, by decide +kernel, rfl, rfl, by decide⟩
theorem kX4_readRules_X4_readTraits : jKv mX4_readRules 44 yX4_readTraits wsX4_readTraits rmX4_readTraits 0 := ⟨gX4_readRules_X4_readTraits, ⟨_, _, _, _, rfl, by decide⟩, by decide +kernel, rfl, rfl, by decide⟩
theorem kX4_readRules_X4_take : jKv mX4_readRules 52 yX4_take wsX4_take rmX4_take 1 := ⟨gX4_readRules_X4_take, ⟨_, _, _, _, rfl, by decide⟩, by decide +kernel, rfl, rfl, by decide⟩
theorem kX4_readRules_X4_readNumber : jKv mX4_readRules 56 yX4_readNumber wsX4_readNumber rmX4_readNumber 2 := ⟨gX4_readRules_X4_readNumber, ⟨_, _, _, _, rfl, by decide⟩, by decide +kernel, rfl, rfl, by decide⟩
set_option maxRecDepth 20000 in
theorem in_X4_readRules_X4 : ∀ x ∈ u_ws RX4 TX4 8, x ∈ wsX4_readRules := by decide +kernel
theorem kX4_readRules_X4_addPart : jKv mX4_readRules 48 yX4_addPart wsX4_addPart rmX4_addPart 1 := ⟨gX4_readRules_X4_addPart, ⟨_, _, _, _, rfl, by decide⟩, by decide +kernel, rfl, rfl, by decide⟩
set_option maxRecDepth 100000 in
set_option maxHeartbeats 4000000 in
theorem c_X4_readRules (E : jE) (o a b c : Nat) (x y z : Int → Int) (n p pk pn pt : Int) (hn : 0 ≤ n ∧ n ≤ 60) (hx : ∀ i, 0 ≤ x i ∧ x i < 1000) : jMI E yX4_readRules wsX4_readRules rmX4_readRules [.ref o] (wPad E o a b c x y z n p pk pn pt) ((rR x n 60 0 0 pn 0 y z).1) (wPadR E o a b c x n (rR x n 60 0 0 pn 0 y z)) := by
  refine jMI_of (cc := cX4_readRules) (maxL := 2) (ret := (some .boolean)) [(0, .ref o)] (by decide) rfl rfl (Nat.le_of_ble_eq_true rfl) (fun C => ?_)
  show jG mX4_readRules E C (jQi E C ((rR x n 60 0 0 pn 0 y z).1) (wPadR E o a b c x n (rR x n 60 0 0 pn 0 y z))) 0 0 0 [(0, .ref o)] [] (wPad E o a b c x y z n p pk pn pt)
  obtain ⟨T, hT⟩ : ∃ T, T = rR x n 60 0 0 pn 0 y z := ⟨_, rfl⟩
  rw [← hT]
  refine j_aload_n 0 1 dX4_readRules_0 rfl rfl ?_
  refine j_callVv 0 [0, 1, 2, 3] 4 [_, _, _, _] (c_X4_startReading E _ _ _ _ _ _ _ _ _ _ _ _ ) rfl kX4_readRules_X4_startReading rfl rfl rfl rfl rfl rfl rfl (Nat.le_of_ble_eq_true rfl) (by decide) dX4_readRules_1 rfl ?_
  refine j_iconst 5 dX4_readRules_4 rfl ?_
  refine j_istore_n 6 [_, _] dX4_readRules_5 rfl (by decide) rfl ?_
  have key6 : ∀ (fu : Nat) (i q un ut : Int) (y1 z1 : Int → Int), i + fu = 60 → 0 ≤ i → (0 ≤ q ∧ q ≤ n) → T = rR x n fu q i un ut y1 z1 → jG mX4_readRules E C (jQi E C (T.1) (wPadR E o a b c x n T)) 0 0 6 [(0, .ref o), (1, .int (jI i))] [] (wPad E o a b c (x) (y1) (z1) (n) (q) (i) (un) (ut)) := by
    intro fu
    induction fu with
    | zero =>
      intro i q un ut y1 z1 h1 h2 h3 he
      rw [he]
      obtain rfl : i = 60 := by omega
      refine j_iload_n 1 7 dX4_readRules_6 rfl rfl ?_
      refine j_bipush 9 dX4_readRules_7 rfl (by decide) ?_
      refine j_icmp_ge 77 12 dX4_readRules_9 rfl (by decide) (by omega) (by omega) (fun _ => ?_) (fun h => absurd h (by omega))
      refine j_iconst 78 dX4_readRules_77 rfl ?_
      exact j_zret dX4_readRules_78 rfl (by rfl) (by omega) (by rfl)
    | succ fu ih =>
      intro i q un ut y1 z1 h1 h2 h3 he
      rw [rR] at he
      have tt := th1_rng (x := x) (n := n) (p := q) (pn := un) (pt := ut) h3.2
      refine j_iload_n 1 7 dX4_readRules_6 rfl rfl ?_
      refine j_bipush 9 dX4_readRules_7 rfl (by decide) ?_
      refine j_icmp_ge 77 12 dX4_readRules_9 rfl (by decide) (by omega) (by omega) (fun h_9 => ?_) (fun h_9 => ?_)
      · skip
        exact absurd h_9 (by omega)
      · skip
        refine j_aload_n 0 13 dX4_readRules_12 rfl rfl ?_
        refine j_callVi 0 [0, 1, 2, 3] 16 [_, _, _, _] (c_X4_readTraits E _ _ _ _ _ _ _ _ _ _ _ _ (by omega) (by omega) (by assumption)) rfl kX4_readRules_X4_readTraits rfl rfl rfl rfl rfl rfl rfl (Nat.le_of_ble_eq_true rfl) (by decide) dX4_readRules_13 rfl ?_
        refine j_if_eq 37 19 dX4_readRules_16 rfl (by decide) (by omega) (fun h_16 => ?_) (fun h_16 => ?_)
        · skip
          have e : ruP x n q un ut = th1 x n q un ut := if_pos h_16
          rw [e, if_pos h_16] at he
          rw [he]
          refine j_iconst 38 dX4_readRules_37 rfl ?_
          exact j_zret dX4_readRules_38 rfl (by rfl) (by omega) (by rfl)
        · skip
          have e : ruP x n q un ut = if tkP x n 62 (th1 x n q un ut).2.1 = 0 then (0, (th1 x n q un ut).2) else (nmZ x n 0 3 ((th1 x n q un ut).2.1 + 1), nmP x n 0 3 ((th1 x n q un ut).2.1 + 1), nmV x n 0 3 ((th1 x n q un ut).2.1 + 1), (th1 x n q un ut).2.2.2) := if_neg h_16
          rw [e] at he
          generalize hu : (th1 x n q un ut).2.1 = u1 at he tt ⊢
          have r := tkP_01 x n 62 u1
          refine j_aload_n 0 20 dX4_readRules_19 rfl rfl ?_
          refine j_bipush 22 dX4_readRules_20 rfl (by decide) ?_
          refine j_callVi 0 [0, 1, 2, 3] 25 [_, _, _, _] (c_X4_take E _ _ _ _ _ _ _ _ _ _ _ _ _ (by omega) (by omega) (by assumption) (by omega)) rfl kX4_readRules_X4_take rfl rfl rfl rfl rfl rfl rfl (Nat.le_of_ble_eq_true rfl) (by decide) dX4_readRules_22 rfl ?_
          refine j_if_eq 37 28 dX4_readRules_25 rfl (by decide) (by omega) (fun h_25 => ?_) (fun h_25 => ?_)
          · skip
            rw [if_pos h_25] at he
            dsimp only at he
            rw [if_pos rfl] at he
            rw [h_25, Int.add_zero, he]
            subst hu
            refine j_iconst 38 dX4_readRules_37 rfl ?_
            exact j_zret dX4_readRules_38 rfl (by rfl) (by omega) (by rfl)
          · skip
            have g := tkP_1 h_25
            rw [if_neg h_25] at he
            dsimp only at he
            rw [g.1]
            have r1 := nm_rng (x := x) (n := n) (lo := 0) (hi := 3) (p := u1 + 1) (by omega) (by omega)
            have z1 := nmZ_01 x n 0 3 (u1 + 1)
            refine j_aload_n 0 29 dX4_readRules_28 rfl rfl ?_
            refine j_iconst 30 dX4_readRules_29 rfl ?_
            refine j_iconst 31 dX4_readRules_30 rfl ?_
            refine j_callVi 0 [0, 1, 2, 3] 34 [_, _, _, _] (c_X4_readNumber E _ _ _ _ _ _ _ _ _ _ _ _ _ _ (by omega) (by omega) (by assumption) (by omega) (by omega)) rfl kX4_readRules_X4_readNumber rfl rfl rfl rfl rfl rfl rfl (Nat.le_of_ble_eq_true rfl) (by decide) dX4_readRules_31 rfl ?_
            refine j_if_ne 39 37 dX4_readRules_34 rfl (by decide) (by omega) (fun h_34 => ?_) (fun h_34 => ?_)
            · skip
              rw [if_neg h_34] at he
              generalize nmP x n 0 3 (u1 + 1) = u2 at he r1 ⊢
              refine j_aload_n 0 40 dX4_readRules_39 rfl rfl ?_
              refine j_aload_n 0 41 dX4_readRules_40 rfl rfl ?_
              refine j_get 0 6 1 44 in_X4_readRules_X4 dX4_readRules_41 rfl rfl rfl (by decide) rfl rfl ?_
              refine j_callVv 0 [0, 1, 2, 3] 47 [_, _, _, _] (c_X4_addPart E _ _ _ _ _ _ _ _ _ _ _ _ _ (by omega)) rfl kX4_readRules_X4_addPart rfl rfl rfl rfl rfl rfl rfl (Nat.le_of_ble_eq_true rfl) (by decide) dX4_readRules_44 rfl ?_
              refine j_aload_n 0 48 dX4_readRules_47 rfl rfl ?_
              refine j_get 0 4 2 51 in_X4_readRules_X4 dX4_readRules_48 rfl rfl rfl (by decide) rfl rfl ?_
              refine j_aload_n 0 52 dX4_readRules_51 rfl rfl ?_
              refine j_get 0 3 3 55 in_X4_readRules_X4 dX4_readRules_52 rfl rfl rfl (by decide) rfl rfl ?_
              refine j_icmp_lt 60 58 dX4_readRules_55 rfl (by decide) (by omega) (by omega) (fun h_55 => ?_) (fun h_55 => ?_)
              · skip
                rw [if_neg (by omega)] at he
                refine j_aload_n 0 61 dX4_readRules_60 rfl rfl ?_
                refine j_bipush 63 dX4_readRules_61 rfl (by decide) ?_
                refine j_callVi 0 [0, 1, 2, 3] 66 [_, _, _, _] (c_X4_take E _ _ _ _ _ _ _ _ _ _ _ _ _ (by omega) (by omega) (by assumption) (by omega)) rfl kX4_readRules_X4_take rfl rfl rfl rfl rfl rfl rfl (Nat.le_of_ble_eq_true rfl) (by decide) dX4_readRules_63 rfl ?_
                refine j_if_ne 71 69 dX4_readRules_66 rfl (by decide) (by have := tkP_01 x n 44 u2; omega) (fun h_66 => ?_) (fun h_66 => ?_)
                · skip
                  have g := tkP_1 h_66
                  rw [g.1]
                  refine j_iinc 1 74 [_, _] dX4_readRules_71 rfl rfl (by decide) rfl ?_
                  refine j_goto 6 dX4_readRules_74 (by decide) ?_
                  refine j_perm [1, 0] rfl ?_
                  rw [if_neg (by omega)] at he
                  exact ih (i + 1) _ _ _ _ _ (by omega) (by omega) (by omega) he
                · skip
                  rw [if_pos (by omega)] at he
                  rw [he]
                  rw [show tkP x n 44 u2 = 0 by omega, Int.add_zero]
                  refine j_iconst 70 dX4_readRules_69 rfl ?_
                  exact j_zret dX4_readRules_70 rfl (by rfl) (by omega) (by rfl)
              · skip
                rw [if_pos (by omega)] at he
                rw [he]
                refine j_iconst 59 dX4_readRules_58 rfl ?_
                exact j_zret dX4_readRules_59 rfl (by rfl) (by omega) (by rfl)
            · skip
              rw [if_pos (by omega)] at he
              rw [he]
              refine j_iconst 38 dX4_readRules_37 rfl ?_
              exact j_zret dX4_readRules_38 rfl (by rfl) (by omega) (by rfl)
  refine j_perm [1, 0] rfl ?_
  exact key6 60 0 0 pn 0 y z (by omega) (by omega) (by omega) hT
