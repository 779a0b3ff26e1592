/-! the reference's array against a State's rows -/
def bxA (l : Int) : Int := if l = 4 then 176 else 90 + 20 * l
/-- all but the counters -/
def rSet (x : Nat → Int → Int) (f : Int → Int) : Prop := x 7 0 = f 0 ∧ x 7 1 = f 1 ∧ x 7 2 = f 2
def rWat (x : Nat → Int → Int) (f : Int → Int) : Prop := (0 ≤ f 3 ∧ f 3 ≤ 15) ∧ x 8 0 = f 3 % 2 ∧ x 8 1 = f 3 / 2 % 2 ∧ x 8 2 = f 3 / 4 % 2 ∧ x 8 3 = f 3 / 8 % 2
def rRul (x : Nat → Int → Int) (f : Int → Int) : Prop := x 9 0 = f 4 ∧ ∀ i, 0 ≤ i → i < x 9 0 → tW (x 0 i) = f (5 + 4 * i) ∧ tR (x 0 i) = f (5 + 4 * i + 1) ∧ tB (x 0 i) = f (5 + 4 * i + 2) ∧ x 1 i = f (5 + 4 * i + 3)
def rCup (x : Nat → Int → Int) (f : Int → Int) : Prop := ∀ p, 0 ≤ p → p < 12 → x 2 p = f (37 + 4 * p) ∧ x 3 p = f (37 + 4 * p + 3) - 1 ∧ ∀ j, 0 ≤ j → j < x 2 p → x 4 (2 * p + j) = f (37 + 4 * p + 1 + j)
def rBox (x : Nat → Int → Int) (f : Int → Int) : Prop := ∀ l, 0 ≤ l → l ≤ 4 → x 5 l = f (85 + l) ∧ ∀ j, 0 ≤ j → j < x 5 l → x 6 (l * 20 + j) = f (bxA l + j)
def rCnt (x : Nat → Int → Int) (f : Int → Int) : Prop := x 9 1 = f 170 ∧ x 9 2 = f 171 ∧ x 9 3 = f 172 ∧ x 9 4 = f 173 ∧ x 9 5 = f 174 ∧ x 9 6 = f 175
def Rel (x : Nat → Int → Int) (f : Int → Int) : Prop := rSet x f ∧ rWat x f ∧ rRul x f ∧ rCup x f ∧ rBox x f ∧ rCnt x f
def fFalls (f : Int → Int) (l t : Int) : Int → Int := jU (jU f (bxA l + f (85 + l)) t) (85 + l) (jU f (bxA l + f (85 + l)) t (85 + l) + 1)
def fFo (f : Int → Int) : Nat → Int → Int
  | 0 => f
  | n + 1 => fFalls (fFo f n) 4 (f (81 + 1 + n))
def fSh (f : Int → Int) : Int → Int := fun k => if 41 ≤ k ∧ k ≤ 84 then f (k - 4) else if 37 ≤ k ∧ k ≤ 40 then 0 else f k
def fGrade (f : Int → Int) (g : Int) : Int → Int := if 0 < f 37 then jU (jU f 173 (f 173 + (if f 37 = 2 then 1 else 0))) 40 (g + 1) else f
def fT3 (f : Int → Int) (g : Int) : Int → Int := fSh (fFo (fGrade (jU f 170 (f 170 + 1)) g) (fGrade (jU f 170 (f 170 + 1)) g 81).toNat)
/-- four places from a on emptied, i of them -/
def fZ (f : Int → Int) (a i : Int) : Int → Int := fun k => if a ≤ k ∧ k < a + i then 0 else f k
def fHurt (f : Int → Int) (l : Int) : Prop := f 3 / 2 ^ l.toNat % 2 = 0 ∧ tB (f (37 + 4 * (2 + 2 * l) + 1)) < 9
def fDr (f : Int → Int) (l w : Int) : Int → Int := if f (37 + 4 * (2 + 2 * l) + 3) = l + 1 then (if f 2 ≤ f (85 + l) then jU (jU f (37 + 4 * (2 + 2 * l) + 3) 5) 172 (f 172 + 1) else if w = 0 ∧ tB (f (37 + 4 * (2 + 2 * l) + 1)) < 9 then fZ (fFalls (jU f 174 (f 174 + 1)) l (f (37 + 4 * (2 + 2 * l) + 1) + 1)) (37 + 4 * (2 + 2 * l)) 4 else fZ (fFalls (jU f 174 (f 174 + 0)) l (f (37 + 4 * (2 + 2 * l) + 1))) (37 + 4 * (2 + 2 * l)) 4) else f
def fDs (f : Int → Int) : Nat → Int → Int
  | 0 => f
  | n + 1 => fDr (fDs f n) n (fDs f n 3 / 2 ^ ((n : Int)).toNat % 2)
theorem fZ_0 (f : Int → Int) (a : Int) : fZ f a 0 = f := by
  funext k
  unfold fZ
  rw [if_neg (by omega)]
theorem fZ_step {f : Int → Int} {a i : Int} (h : 0 ≤ i) : jU (fZ f a i) (a + i) 0 = fZ f a (i + 1) := by
  funext k
  unfold jU fZ
  by_cases h1 : k = a + i
  · rw [if_pos h1, if_pos (by omega)]
  · rw [if_neg h1]
    by_cases h2 : a ≤ k ∧ k < a + i
    · rw [if_pos h2, if_pos (by omega)]
    · rw [if_neg h2, if_neg (by omega)]
theorem fSh_of (f : Int → Int) : fZ (sh1 f 4 40 84) 37 4 = fSh f := by
  funext k
  unfold fZ sh1 fSh
  by_cases h1 : 37 ≤ k ∧ k < 37 + 4
  · rw [if_pos h1, if_neg (by omega), if_pos (by omega)]
  · rw [if_neg h1]
    by_cases h2 : 40 < k ∧ k ≤ 84
    · rw [if_pos h2, if_pos (by omega)]
    · rw [if_neg h2, if_neg (by omega), if_neg (by omega)]
theorem fFalls_lo (f : Int → Int) {l t k : Int} (hl : 0 ≤ l ∧ l ≤ 4) (hn : 0 ≤ f (85 + l)) (hk : k < 85) : fFalls f l t k = f k := by
  unfold fFalls
  have : 90 ≤ bxA l := by unfold bxA; split <;> omega
  rw [jU_ne (by omega), jU_ne (by omega)]
theorem fFalls_many (f : Int → Int) {l t : Int} (hl : 0 ≤ l ∧ l ≤ 4) (hn : 0 ≤ f (85 + l)) : fFalls f l t (85 + l) = f (85 + l) + 1 := by
  unfold fFalls
  have : 90 ≤ bxA l := by unfold bxA; split <;> omega
  rw [jU_at, jU_ne (by omega)]
theorem fFo_at (f : Int → Int) (h : 0 ≤ f 89) : ∀ n : Nat, (∀ k, k < 85 → fFo f n k = f k) ∧ fFo f n 89 = f 89 + n := by
  intro n
  induction n with
  | zero => exact ⟨fun _ _ => rfl, by show f 89 = f 89 + ((0 : Nat) : Int); omega⟩
  | succ n ih =>
    have e : (85 + 4 : Int) = 89 := rfl
    refine ⟨fun k hk => ?_, ?_⟩
    · show fFalls (fFo f n) 4 (f (81 + 1 + n)) k = f k
      rw [fFalls_lo _ (by omega) (by rw [e, ih.2]; omega) hk]
      exact ih.1 k hk
    · have := fFalls_many (fFo f n) (l := 4) (t := f (81 + 1 + n)) (by omega) (by rw [e, ih.2]; omega)
      rw [e] at this
      show fFalls (fFo f n) 4 (f (81 + 1 + n)) 89 = _
      rw [this, ih.2]
      omega
/-- shifts of the water's bits -/
theorem jWat : ∀ w l : Int, 0 ≤ w ∧ w ≤ 15 → 0 ≤ l ∧ l < 4 → (jI w >>> (jI l &&& 31)) &&& jI 1 = jI (w / 2 ^ l.toNat % 2) := by
  intro w l hw hl
  have key : ∀ a : Nat, a < 16 → ∀ b : Nat, b < 4 → (jI (a : Int) >>> (jI (b : Int) &&& 31)) &&& jI 1 = jI ((a : Int) / 2 ^ (b : Int).toNat % 2) := by decide +kernel
  have h1 := key w.toNat (by omega) l.toNat (by omega)
  have e1 : (w.toNat : Int) = w := by omega
  have e2 : (l.toNat : Int) = l := by omega
  rw [e1, e2] at h1
  exact h1
theorem j_ishr_and {M : jM} {E : jE} {C : jC} {Q : State → Prop} {k n pc : Nat} {L : List (Nat × Value)} {S : List Value} {w : va_W} {a l : Int} (pc1 pc2 pc3 : Nat) (hd1 : decode M.1 pc = .ok (.ishr, 1)) (hd2 : decode M.1 pc1 = .ok (.iconst 1, 1)) (hd3 : decode M.1 pc2 = .ok (.iand, 1)) (hn1 : pc + 1 = pc1) (hn2 : pc1 + 1 = pc2) (hn3 : pc2 + 1 = pc3) (ha : 0 ≤ a ∧ a ≤ 15) (hl : 0 ≤ l ∧ l < 4) (kk : jG M E C Q k n pc3 L (.int (jI (a / 2 ^ l.toNat % 2)) :: S) w) : jG M E C Q k n pc L (.int (jI l) :: .int (jI a) :: S) w := by
  subst hn1; subst hn2; subst hn3
  intro hF H locs ls hP hD hS hl'
  refine lv_ishr hF.1 hF.2.1 hd1 ?_
  refine lv_iconst hF.1 hF.2.1 hd2 rfl ?_
  refine lv_iand hF.1 hF.2.1 hd3 ?_
  have e := jWat a l ha hl
  have e2 : Int32.ofInt 1 = jI 1 := rfl
  rw [e2, e]
  exact kk hF H locs ls hP hD hS hl'
theorem rWat_at {x : Nat → Int → Int} {f : Int → Int} (h : rWat x f) {l : Int} (hl : 0 ≤ l ∧ l < 4) : x 8 l = f 3 / 2 ^ l.toNat % 2 := by
  obtain ⟨-, h0, h1, h2, h3⟩ := h
  rcases (show l = 0 ∨ l = 1 ∨ l = 2 ∨ l = 3 by omega) with rfl | rfl | rfl | rfl
  · rw [h0]; show _ = f 3 / 1 % 2; omega
  · exact h1
  · exact h2
  · exact h3
/-- what laneOf and what stands on it needs -/
def RelR (x : Nat → Int → Int) (f : Int → Int) : Prop := rSet x f ∧ rRul x f
theorem RelR_hi {x : Nat → Int → Int} {f : Int → Int} {i z : Int} (hx : sOK x) (h : RelR x f) (hi : 37 ≤ i) : RelR x (jU f i z) := by
  have r9 : 0 ≤ x 9 0 ∧ x 9 0 ≤ 8 := hx 9
  obtain ⟨⟨s0, s1, s2⟩, s4, hk⟩ := h
  refine ⟨⟨?_, ?_, ?_⟩, ?_, fun k h0 h1 => ?_⟩
  · rw [jU_ne (by omega)]; exact s0
  · rw [jU_ne (by omega)]; exact s1
  · rw [jU_ne (by omega)]; exact s2
  · rw [jU_ne (by omega)]; exact s4
  · rw [jU_ne (by omega), jU_ne (by omega), jU_ne (by omega), jU_ne (by omega)]; exact hk k h0 h1
set_option maxRecDepth 100000 in
set_option maxHeartbeats 4000000 in
theorem c_X8_in (E : jE) (u lo hi : Int) (ub : -2147483648 ≤ u ∧ u < 2147483648) (lob : -2147483648 ≤ lo ∧ lo < 2147483648) (hib : -2147483648 ≤ hi ∧ hi < 2147483648) : jMI E yX8_in wsX8_in rmX8_in [.int (jI u), .int (jI lo), .int (jI hi)] ([]) (if lo ≤ u ∧ u ≤ hi then 1 else 0) ([]) := by
  refine jMI_of (cc := cX8_in) (maxL := 3) (ret := (some .boolean)) [(0, .int (jI u)), (1, .int (jI lo)), (2, .int (jI hi))] (by decide) rfl rfl (Nat.le_of_ble_eq_true rfl) (fun C => ?_)
  show jG mX8_in E C (jQi E C (if lo ≤ u ∧ u ≤ hi then 1 else 0) ([])) 0 0 0 [(0, .int (jI u)), (1, .int (jI lo)), (2, .int (jI hi))] [] ([])
  refine j_iload_n 0 1 dX8_in_0 rfl rfl ?_
  refine j_iload_n 1 2 dX8_in_1 rfl rfl ?_
  refine j_icmp_lt 14 5 dX8_in_2 rfl (by decide) (by omega) (by omega) (fun h_2 => ?_) (fun h_2 => ?_)
  · skip
    refine j_iconst 15 dX8_in_14 rfl ?_
    exact j_zret dX8_in_15 rfl (by split <;> omega) (by decide) (by rfl)
  · skip
    refine j_iload_n 0 6 dX8_in_5 rfl rfl ?_
    refine j_iload_n 2 7 dX8_in_6 rfl rfl ?_
    refine j_icmp_gt 14 10 dX8_in_7 rfl (by decide) (by omega) (by omega) (fun h_7 => ?_) (fun h_7 => ?_)
    · skip
      refine j_iconst 15 dX8_in_14 rfl ?_
      exact j_zret dX8_in_15 rfl (by split <;> omega) (by decide) (by rfl)
    · skip
      refine j_iconst 11 dX8_in_10 rfl ?_
      refine j_goto 15 dX8_in_11 (by decide) ?_
      exact j_zret dX8_in_15 rfl (by split <;> omega) (by decide) (by rfl)
theorem kX8_isApple_X8_in : jKs mX8_isApple 32 yX8_in wsX8_in rmX8_in 3 := ⟨gX8_isApple_X8_in, ⟨_, _, _, _, rfl, by decide⟩, by decide +kernel, rfl, rfl, by decide⟩
set_option maxRecDepth 100000 in
set_option maxHeartbeats 4000000 in
theorem c_X8_isApple (E : jE) (a r b : Int) (ab : -2147483648 ≤ a ∧ a < 2147483648) (rb : -2147483648 ≤ r ∧ r < 2147483648) (bb : -2147483648 ≤ b ∧ b < 2147483648) : jMI E yX8_isApple wsX8_isApple rmX8_isApple [.int (jI a), .int (jI r), .int (jI b)] ([]) (tIn a r b) ([]) := by
  refine jMI_of (cc := cX8_isApple) (maxL := 3) (ret := (some .boolean)) [(0, .int (jI a)), (1, .int (jI r)), (2, .int (jI b))] (by decide) rfl rfl (Nat.le_of_ble_eq_true rfl) (fun C => ?_)
  show jG mX8_isApple E C (jQi E C (tIn a r b) ([])) 0 0 0 [(0, .int (jI a)), (1, .int (jI r)), (2, .int (jI b))] [] ([])
  have q1 : (50 ≤ a ∧ a ≤ 300 ∧ (if 50 ≤ a ∧ a ≤ 300 then (1 : Int) else 0) = 1) ∨ (¬ (50 ≤ a ∧ a ≤ 300) ∧ (if 50 ≤ a ∧ a ≤ 300 then (1 : Int) else 0) = 0) := by split <;> omega
  have q2 : (0 ≤ r ∧ r ≤ 100 ∧ (if 0 ≤ r ∧ r ≤ 100 then (1 : Int) else 0) = 1) ∨ (¬ (0 ≤ r ∧ r ≤ 100) ∧ (if 0 ≤ r ∧ r ≤ 100 then (1 : Int) else 0) = 0) := by split <;> omega
  have q3 : (0 ≤ b ∧ b ≤ 9 ∧ (if 0 ≤ b ∧ b ≤ 9 then (1 : Int) else 0) = 1) ∨ (¬ (0 ≤ b ∧ b ≤ 9) ∧ (if 0 ≤ b ∧ b ≤ 9 then (1 : Int) else 0) = 0) := by split <;> omega
  refine j_iload_n 0 1 dX8_isApple_0 rfl rfl ?_
  refine j_bipush 3 dX8_isApple_1 rfl (by decide) ?_
  refine j_sipush 6 dX8_isApple_3 rfl (by decide) ?_
  refine j_callSi [] 9 [] (c_X8_in E _ _ _ (by omega) (by omega) (by omega)) rfl kX8_isApple_X8_in rfl rfl rfl rfl rfl (Nat.le_of_ble_eq_true rfl) (by decide) dX8_isApple_6 rfl ?_
  refine j_if_eq 36 12 dX8_isApple_9 rfl (by decide) (by omega) (fun h_9 => ?_) (fun h_9 => ?_)
  · skip
    refine j_iconst 37 dX8_isApple_36 rfl ?_
    exact j_zret dX8_isApple_37 rfl (by unfold tIn; split <;> omega) (by decide) (by rfl)
  · skip
    refine j_iload_n 1 13 dX8_isApple_12 rfl rfl ?_
    refine j_iconst 14 dX8_isApple_13 rfl ?_
    refine j_bipush 16 dX8_isApple_14 rfl (by decide) ?_
    refine j_callSi [] 19 [] (c_X8_in E _ _ _ (by omega) (by omega) (by omega)) rfl kX8_isApple_X8_in rfl rfl rfl rfl rfl (Nat.le_of_ble_eq_true rfl) (by decide) dX8_isApple_16 rfl ?_
    refine j_if_eq 36 22 dX8_isApple_19 rfl (by decide) (by omega) (fun h_19 => ?_) (fun h_19 => ?_)
    · skip
      refine j_iconst 37 dX8_isApple_36 rfl ?_
      exact j_zret dX8_isApple_37 rfl (by unfold tIn; split <;> omega) (by decide) (by rfl)
    · skip
      refine j_iload_n 2 23 dX8_isApple_22 rfl rfl ?_
      refine j_iconst 24 dX8_isApple_23 rfl ?_
      refine j_bipush 26 dX8_isApple_24 rfl (by decide) ?_
      refine j_callSi [] 29 [] (c_X8_in E _ _ _ (by omega) (by omega) (by omega)) rfl kX8_isApple_X8_in rfl rfl rfl rfl rfl (Nat.le_of_ble_eq_true rfl) (by decide) dX8_isApple_26 rfl ?_
      refine j_if_eq 36 32 dX8_isApple_29 rfl (by decide) (by omega) (fun h_29 => ?_) (fun h_29 => ?_)
      · skip
        refine j_iconst 37 dX8_isApple_36 rfl ?_
        exact j_zret dX8_isApple_37 rfl (by unfold tIn; split <;> omega) (by decide) (by rfl)
      · skip
        refine j_iconst 33 dX8_isApple_32 rfl ?_
        refine j_goto 37 dX8_isApple_33 (by decide) ?_
        exact j_zret dX8_isApple_37 rfl (by unfold tIn; split <;> omega) (by decide) (by rfl)
set_option maxRecDepth 100000 in
set_option maxHeartbeats 4000000 in
theorem c_X8_packed (E : jE) (a r b : Int)  : jMI E yX8_packed wsX8_packed rmX8_packed [.int (jI a), .int (jI r), .int (jI b)] ([]) (tOf a r b) ([]) := by
  refine jMI_of (cc := cX8_packed) (maxL := 3) (ret := (some .int)) [(0, .int (jI a)), (1, .int (jI r)), (2, .int (jI b))] (by decide) rfl rfl (Nat.le_of_ble_eq_true rfl) (fun C => ?_)
  show jG mX8_packed E C (jQi E C (tOf a r b) ([])) 0 0 0 [(0, .int (jI a)), (1, .int (jI r)), (2, .int (jI b))] [] ([])
  refine j_sipush 3 dX8_packed_0 rfl (by decide) ?_
  refine j_iload_n 0 4 dX8_packed_3 rfl rfl ?_
  refine j_imul 5 dX8_packed_4 rfl ?_
  refine j_bipush 7 dX8_packed_5 rfl (by decide) ?_
  refine j_iload_n 1 8 dX8_packed_7 rfl rfl ?_
  refine j_imul 9 dX8_packed_8 rfl ?_
  refine j_iadd 10 dX8_packed_9 rfl ?_
  refine j_iload_n 2 11 dX8_packed_10 rfl rfl ?_
  refine j_iadd 12 dX8_packed_11 rfl ?_
  exact j_iret dX8_packed_12 rfl (by congr 1; unfold tOf; omega) (by rfl)
set_option maxRecDepth 100000 in
set_option maxHeartbeats 4000000 in
theorem c_X8_weightOf (E : jE) (t : Int) (ht : 0 ≤ t ∧ t < 2147483648) : jMI E yX8_weightOf wsX8_weightOf rmX8_weightOf [.int (jI t)] ([]) (tW t) ([]) := by
  refine jMI_of (cc := cX8_weightOf) (maxL := 1) (ret := (some .int)) [(0, .int (jI t))] (by decide) rfl rfl (Nat.le_of_ble_eq_true rfl) (fun C => ?_)
  show jG mX8_weightOf E C (jQi E C (tW t) ([])) 0 0 0 [(0, .int (jI t))] [] ([])
  refine j_iload_n 0 1 dX8_weightOf_0 rfl rfl ?_
  refine j_sipush 4 dX8_weightOf_1 rfl (by decide) ?_
  refine j_idiv 5 dX8_weightOf_4 rfl (by omega) (by decide) ?_
  exact j_iret dX8_weightOf_5 rfl (by rfl) (by rfl)
set_option maxRecDepth 100000 in
set_option maxHeartbeats 4000000 in
theorem c_X8_redOf (E : jE) (t : Int) (ht : 0 ≤ t ∧ t < 2147483648) : jMI E yX8_redOf wsX8_redOf rmX8_redOf [.int (jI t)] ([]) (tR t) ([]) := by
  refine jMI_of (cc := cX8_redOf) (maxL := 1) (ret := (some .int)) [(0, .int (jI t))] (by decide) rfl rfl (Nat.le_of_ble_eq_true rfl) (fun C => ?_)
  show jG mX8_redOf E C (jQi E C (tR t) ([])) 0 0 0 [(0, .int (jI t))] [] ([])
  refine j_iload_n 0 1 dX8_redOf_0 rfl rfl ?_
  refine j_sipush 4 dX8_redOf_1 rfl (by decide) ?_
  refine j_irem 5 dX8_redOf_4 rfl (by omega) (by decide) ?_
  refine j_bipush 7 dX8_redOf_5 rfl (by decide) ?_
  refine j_idiv 8 dX8_redOf_7 rfl (by omega) (by decide) ?_
  exact j_iret dX8_redOf_8 rfl (by congr 1; unfold tR; omega) (by rfl)
set_option maxRecDepth 100000 in
set_option maxHeartbeats 4000000 in
theorem c_X8_bruiseOf (E : jE) (t : Int) (ht : 0 ≤ t ∧ t < 2147483648) : jMI E yX8_bruiseOf wsX8_bruiseOf rmX8_bruiseOf [.int (jI t)] ([]) (tB t) ([]) := by
  refine jMI_of (cc := cX8_bruiseOf) (maxL := 1) (ret := (some .int)) [(0, .int (jI t))] (by decide) rfl rfl (Nat.le_of_ble_eq_true rfl) (fun C => ?_)
  show jG mX8_bruiseOf E C (jQi E C (tB t) ([])) 0 0 0 [(0, .int (jI t))] [] ([])
  refine j_iload_n 0 1 dX8_bruiseOf_0 rfl rfl ?_
  refine j_sipush 4 dX8_bruiseOf_1 rfl (by decide) ?_
  refine j_irem 5 dX8_bruiseOf_4 rfl (by omega) (by decide) ?_
  refine j_bipush 7 dX8_bruiseOf_5 rfl (by decide) ?_
  refine j_irem 8 dX8_bruiseOf_7 rfl (by omega) (by decide) ?_
  exact j_iret dX8_bruiseOf_8 rfl (by congr 1; unfold tB; omega) (by rfl)
set_option maxRecDepth 100000 in
set_option maxHeartbeats 4000000 in
theorem c_X8_ruleAt (E : jE) (k : Int)  : jMI E yX8_ruleAt wsX8_ruleAt rmX8_ruleAt [.int (jI k)] ([]) (5 + 4 * k) ([]) := by
  refine jMI_of (cc := cX8_ruleAt) (maxL := 1) (ret := (some .int)) [(0, .int (jI k))] (by decide) rfl rfl (Nat.le_of_ble_eq_true rfl) (fun C => ?_)
  show jG mX8_ruleAt E C (jQi E C (5 + 4 * k) ([])) 0 0 0 [(0, .int (jI k))] [] ([])
  refine j_iconst 1 dX8_ruleAt_0 rfl ?_
  refine j_iconst 2 dX8_ruleAt_1 rfl ?_
  refine j_iload_n 0 3 dX8_ruleAt_2 rfl rfl ?_
  refine j_imul 4 dX8_ruleAt_3 rfl ?_
  refine j_iadd 5 dX8_ruleAt_4 rfl ?_
  exact j_iret dX8_ruleAt_5 rfl (by rfl) (by rfl)
set_option maxRecDepth 100000 in
set_option maxHeartbeats 4000000 in
theorem c_X8_cupAt (E : jE) (k : Int)  : jMI E yX8_cupAt wsX8_cupAt rmX8_cupAt [.int (jI k)] ([]) (37 + 4 * k) ([]) := by
  refine jMI_of (cc := cX8_cupAt) (maxL := 1) (ret := (some .int)) [(0, .int (jI k))] (by decide) rfl rfl (Nat.le_of_ble_eq_true rfl) (fun C => ?_)
  show jG mX8_cupAt E C (jQi E C (37 + 4 * k) ([])) 0 0 0 [(0, .int (jI k))] [] ([])
  refine j_bipush 2 dX8_cupAt_0 rfl (by decide) ?_
  refine j_iconst 3 dX8_cupAt_2 rfl ?_
  refine j_iload_n 0 4 dX8_cupAt_3 rfl rfl ?_
  refine j_imul 5 dX8_cupAt_4 rfl ?_
  refine j_iadd 6 dX8_cupAt_5 rfl ?_
  exact j_iret dX8_cupAt_6 rfl (by rfl) (by rfl)
set_option maxRecDepth 100000 in
set_option maxHeartbeats 4000000 in
theorem c_X8_boxAt (E : jE) (l : Int) (lb : -2147483648 ≤ l ∧ l < 2147483648) : jMI E yX8_boxAt wsX8_boxAt rmX8_boxAt [.int (jI l)] ([]) (bxA l) ([]) := by
  refine jMI_of (cc := cX8_boxAt) (maxL := 1) (ret := (some .int)) [(0, .int (jI l))] (by decide) rfl rfl (Nat.le_of_ble_eq_true rfl) (fun C => ?_)
  show jG mX8_boxAt E C (jQi E C (bxA l) ([])) 0 0 0 [(0, .int (jI l))] [] ([])
  refine j_iload_n 0 1 dX8_boxAt_0 rfl rfl ?_
  refine j_iconst 2 dX8_boxAt_1 rfl ?_
  refine j_icmp_ne 11 5 dX8_boxAt_2 rfl (by decide) (by omega) (by omega) (fun h_2 => ?_) (fun h_2 => ?_)
  · skip
    refine j_bipush 13 dX8_boxAt_11 rfl (by decide) ?_
    refine j_bipush 15 dX8_boxAt_13 rfl (by decide) ?_
    refine j_iload_n 0 16 dX8_boxAt_15 rfl rfl ?_
    refine j_imul 17 dX8_boxAt_16 rfl ?_
    refine j_iadd 18 dX8_boxAt_17 rfl ?_
    exact j_iret dX8_boxAt_18 rfl (by congr 1; unfold bxA; split <;> omega) (by rfl)
  · skip
    refine j_sipush 8 dX8_boxAt_5 rfl (by decide) ?_
    refine j_goto 18 dX8_boxAt_8 (by decide) ?_
    exact j_iret dX8_boxAt_18 rfl (by congr 1; unfold bxA; split <;> omega) (by rfl)
theorem kX8_seen_X8_redOf : jKs mX8_seen 36 yX8_redOf wsX8_redOf rmX8_redOf 1 := ⟨gX8_seen_X8_redOf, ⟨_, _, _, _, rfl, by decide⟩, by decide +kernel, rfl, rfl, by decide⟩
set_option maxRecDepth 20000 in
theorem in_X8_seen_X8 : ∀ x ∈ u_ws RX8 TX8 11, x ∈ wsX8_seen := by decide +kernel
theorem kX8_seen_X8_bruiseOf : jKs mX8_seen 40 yX8_bruiseOf wsX8_bruiseOf rmX8_bruiseOf 1 := ⟨gX8_seen_X8_bruiseOf, ⟨_, _, _, _, rfl, by decide⟩, by decide +kernel, rfl, rfl, by decide⟩
theorem kX8_seen_X8_weightOf : jKs mX8_seen 43 yX8_weightOf wsX8_weightOf rmX8_weightOf 1 := ⟨gX8_seen_X8_weightOf, ⟨_, _, _, _, rfl, by decide⟩, by decide +kernel, rfl, rfl, by decide⟩
theorem kX8_seen_X8_packed : jKs mX8_seen 46 yX8_packed wsX8_packed rmX8_packed 3 := ⟨gX8_seen_X8_packed, ⟨_, _, _, _, rfl, by decide⟩, by decide +kernel, rfl, rfl, by decide⟩
set_option maxRecDepth 100000 in
set_option maxHeartbeats 4000000 in
theorem c_X8_seen (E : jE) (o a : Nat) (fs : List Value) (f : Int → Int) (x : Nat → Int → Int) (t : Int) (hx : sOK x) (hr : RelR x f) (ht : 0 ≤ t ∧ t < 404000) : jMI E yX8_seen wsX8_seen rmX8_seen [.ref o, .int (jI t)] (wMs E o a fs f) (sSee x t) (wMs E o a fs f) := by
  refine jMI_of (cc := cX8_seen) (maxL := 4) (ret := (some .int)) [(0, .ref o), (1, .int (jI t))] (by decide) rfl rfl (Nat.le_of_ble_eq_true rfl) (fun C => ?_)
  show jG mX8_seen E C (jQi E C (sSee x t) (wMs E o a fs f)) 0 0 0 [(0, .ref o), (1, .int (jI t))] [] (wMs E o a fs f)
  have r7 : (-20 ≤ x 7 0 ∧ x 7 0 ≤ 20) ∧ (0 ≤ x 7 1 ∧ x 7 1 ≤ 9) ∧ (1 ≤ x 7 2 ∧ x 7 2 ≤ 20) := hx 7
  obtain ⟨⟨s0, s1, s2⟩, -⟩ := hr
  have g1 := tR_rng t
  have g2 := tB_rng t
  refine j_iload_n 1 1 dX8_seen_0 rfl rfl ?_
  refine j_callSi [] 4 [_, _] (c_X8_redOf E _ (by omega)) rfl kX8_seen_X8_redOf rfl rfl rfl rfl rfl (Nat.le_of_ble_eq_true rfl) (by decide) dX8_seen_1 rfl ?_
  refine j_aload_n 0 5 dX8_seen_4 rfl rfl ?_
  refine j_get 0 0 1 8 in_X8_seen_X8 dX8_seen_5 rfl rfl rfl (by decide) rfl rfl ?_
  refine j_iconst 9 dX8_seen_8 rfl ?_
  refine j_iald 1 10 dX8_seen_9 rfl rfl (by decide) (by omega) ?_
  refine j_iadd 11 dX8_seen_10 rfl ?_
  refine j_istore_n 12 [_, _, _] dX8_seen_11 rfl (by decide) rfl ?_
  refine j_iload_n 0 13 dX8_seen_12 rfl rfl ?_
  refine j_if_ge 20 16 dX8_seen_13 rfl (by decide) (by omega) (fun h_13 => ?_) (fun h_13 => ?_)
  · skip
    refine j_iload_n 0 21 dX8_seen_20 rfl rfl ?_
    refine j_bipush 23 dX8_seen_21 rfl (by decide) ?_
    refine j_icmp_le 31 26 dX8_seen_23 rfl (by decide) (by omega) (by omega) (fun h_23 => ?_) (fun h_23 => ?_)
    · skip
      refine j_iload_n 0 32 dX8_seen_31 rfl rfl ?_
      refine j_istore_n 33 [_, _, _] dX8_seen_32 rfl (by decide) rfl ?_
      refine j_iload_n 2 34 dX8_seen_33 rfl rfl ?_
      refine j_callSi [] 37 [_, _] (c_X8_bruiseOf E _ (by omega)) rfl kX8_seen_X8_bruiseOf rfl rfl rfl rfl rfl (Nat.le_of_ble_eq_true rfl) (by decide) dX8_seen_34 rfl ?_
      refine j_istore_n 38 [_, _, _, _] dX8_seen_37 rfl (by decide) rfl ?_
      refine j_iload_n 3 39 dX8_seen_38 rfl rfl ?_
      refine j_callSi [] 42 [_, _] (c_X8_weightOf E _ (by omega)) rfl kX8_seen_X8_weightOf rfl rfl rfl rfl rfl (Nat.le_of_ble_eq_true rfl) (by decide) dX8_seen_39 rfl ?_
      refine j_iload_n 1 43 dX8_seen_42 rfl rfl ?_
      refine j_iload_n 0 44 dX8_seen_43 rfl rfl ?_
      refine j_aload_n 2 45 dX8_seen_44 rfl rfl ?_
      refine j_get 0 0 1 48 in_X8_seen_X8 dX8_seen_45 rfl rfl rfl (by decide) rfl rfl ?_
      refine j_iconst 49 dX8_seen_48 rfl ?_
      refine j_iald 1 50 dX8_seen_49 rfl rfl (by decide) (by omega) ?_
      refine j_icmp_ge 57 53 dX8_seen_50 rfl (by decide) (by omega) (by omega) (fun h_50 => ?_) (fun h_50 => ?_)
      · skip
        refine j_iload_n 0 58 dX8_seen_57 rfl rfl ?_
        refine j_callSi [] 61 [_, _] (c_X8_packed E _ _ _ ) rfl kX8_seen_X8_packed rfl rfl rfl rfl rfl (Nat.le_of_ble_eq_true rfl) (by decide) dX8_seen_58 rfl ?_
        exact j_iret dX8_seen_61 rfl (by congr 1; unfold sSee tOf jMax jMin; (repeat' split) <;> omega) (by rfl)
      · skip
        refine j_iconst 54 dX8_seen_53 rfl ?_
        refine j_goto 58 dX8_seen_54 (by decide) ?_
        refine j_callSi [] 61 [_, _] (c_X8_packed E _ _ _ ) rfl kX8_seen_X8_packed rfl rfl rfl rfl rfl (Nat.le_of_ble_eq_true rfl) (by decide) dX8_seen_58 rfl ?_
        exact j_iret dX8_seen_61 rfl (by congr 1; unfold sSee tOf jMax jMin; (repeat' split) <;> omega) (by rfl)
    · skip
      refine j_bipush 28 dX8_seen_26 rfl (by decide) ?_
      refine j_goto 32 dX8_seen_28 (by decide) ?_
      refine j_istore_n 33 [_, _, _] dX8_seen_32 rfl (by decide) rfl ?_
      refine j_iload_n 2 34 dX8_seen_33 rfl rfl ?_
      refine j_callSi [] 37 [_, _] (c_X8_bruiseOf E _ (by omega)) rfl kX8_seen_X8_bruiseOf rfl rfl rfl rfl rfl (Nat.le_of_ble_eq_true rfl) (by decide) dX8_seen_34 rfl ?_
      refine j_istore_n 38 [_, _, _, _] dX8_seen_37 rfl (by decide) rfl ?_
      refine j_iload_n 3 39 dX8_seen_38 rfl rfl ?_
      refine j_callSi [] 42 [_, _] (c_X8_weightOf E _ (by omega)) rfl kX8_seen_X8_weightOf rfl rfl rfl rfl rfl (Nat.le_of_ble_eq_true rfl) (by decide) dX8_seen_39 rfl ?_
      refine j_iload_n 1 43 dX8_seen_42 rfl rfl ?_
      refine j_iload_n 0 44 dX8_seen_43 rfl rfl ?_
      refine j_aload_n 2 45 dX8_seen_44 rfl rfl ?_
      refine j_get 0 0 1 48 in_X8_seen_X8 dX8_seen_45 rfl rfl rfl (by decide) rfl rfl ?_
      refine j_iconst 49 dX8_seen_48 rfl ?_
      refine j_iald 1 50 dX8_seen_49 rfl rfl (by decide) (by omega) ?_
      refine j_icmp_ge 57 53 dX8_seen_50 rfl (by decide) (by omega) (by omega) (fun h_50 => ?_) (fun h_50 => ?_)
      · skip
        refine j_iload_n 0 58 dX8_seen_57 rfl rfl ?_
        refine j_callSi [] 61 [_, _] (c_X8_packed E _ _ _ ) rfl kX8_seen_X8_packed rfl rfl rfl rfl rfl (Nat.le_of_ble_eq_true rfl) (by decide) dX8_seen_58 rfl ?_
        exact j_iret dX8_seen_61 rfl (by congr 1; unfold sSee tOf jMax jMin; (repeat' split) <;> omega) (by rfl)
      · skip
        refine j_iconst 54 dX8_seen_53 rfl ?_
        refine j_goto 58 dX8_seen_54 (by decide) ?_
        refine j_callSi [] 61 [_, _] (c_X8_packed E _ _ _ ) rfl kX8_seen_X8_packed rfl rfl rfl rfl rfl (Nat.le_of_ble_eq_true rfl) (by decide) dX8_seen_58 rfl ?_
        exact j_iret dX8_seen_61 rfl (by congr 1; unfold sSee tOf jMax jMin; (repeat' split) <;> omega) (by rfl)
  · skip
    refine j_iconst 17 dX8_seen_16 rfl ?_
    refine j_goto 32 dX8_seen_17 (by decide) ?_
    refine j_istore_n 33 [_, _, _] dX8_seen_32 rfl (by decide) rfl ?_
    refine j_iload_n 2 34 dX8_seen_33 rfl rfl ?_
    refine j_callSi [] 37 [_, _] (c_X8_bruiseOf E _ (by omega)) rfl kX8_seen_X8_bruiseOf rfl rfl rfl rfl rfl (Nat.le_of_ble_eq_true rfl) (by decide) dX8_seen_34 rfl ?_
    refine j_istore_n 38 [_, _, _, _] dX8_seen_37 rfl (by decide) rfl ?_
    refine j_iload_n 3 39 dX8_seen_38 rfl rfl ?_
    refine j_callSi [] 42 [_, _] (c_X8_weightOf E _ (by omega)) rfl kX8_seen_X8_weightOf rfl rfl rfl rfl rfl (Nat.le_of_ble_eq_true rfl) (by decide) dX8_seen_39 rfl ?_
    refine j_iload_n 1 43 dX8_seen_42 rfl rfl ?_
    refine j_iload_n 0 44 dX8_seen_43 rfl rfl ?_
    refine j_aload_n 2 45 dX8_seen_44 rfl rfl ?_
    refine j_get 0 0 1 48 in_X8_seen_X8 dX8_seen_45 rfl rfl rfl (by decide) rfl rfl ?_
    refine j_iconst 49 dX8_seen_48 rfl ?_
    refine j_iald 1 50 dX8_seen_49 rfl rfl (by decide) (by omega) ?_
    refine j_icmp_ge 57 53 dX8_seen_50 rfl (by decide) (by omega) (by omega) (fun h_50 => ?_) (fun h_50 => ?_)
    · skip
      refine j_iload_n 0 58 dX8_seen_57 rfl rfl ?_
      refine j_callSi [] 61 [_, _] (c_X8_packed E _ _ _ ) rfl kX8_seen_X8_packed rfl rfl rfl rfl rfl (Nat.le_of_ble_eq_true rfl) (by decide) dX8_seen_58 rfl ?_
      exact j_iret dX8_seen_61 rfl (by congr 1; unfold sSee tOf jMax jMin; (repeat' split) <;> omega) (by rfl)
    · skip
      refine j_iconst 54 dX8_seen_53 rfl ?_
      refine j_goto 58 dX8_seen_54 (by decide) ?_
      refine j_callSi [] 61 [_, _] (c_X8_packed E _ _ _ ) rfl kX8_seen_X8_packed rfl rfl rfl rfl rfl (Nat.le_of_ble_eq_true rfl) (by decide) dX8_seen_58 rfl ?_
      exact j_iret dX8_seen_61 rfl (by congr 1; unfold sSee tOf jMax jMin; (repeat' split) <;> omega) (by rfl)
theorem kX8_missed_X8_ruleAt : jKs mX8_missed 50 yX8_ruleAt wsX8_ruleAt rmX8_ruleAt 1 := ⟨gX8_missed_X8_ruleAt, ⟨_, _, _, _, rfl, by decide⟩, by decide +kernel, rfl, rfl, by decide⟩
theorem kX8_missed_X8_weightOf : jKs mX8_missed 43 yX8_weightOf wsX8_weightOf rmX8_weightOf 1 := ⟨gX8_missed_X8_weightOf, ⟨_, _, _, _, rfl, by decide⟩, by decide +kernel, rfl, rfl, by decide⟩
set_option maxRecDepth 20000 in
theorem in_X8_missed_X8 : ∀ x ∈ u_ws RX8 TX8 11, x ∈ wsX8_missed := by decide +kernel
theorem kX8_missed_X8_redOf : jKs mX8_missed 36 yX8_redOf wsX8_redOf rmX8_redOf 1 := ⟨gX8_missed_X8_redOf, ⟨_, _, _, _, rfl, by decide⟩, by decide +kernel, rfl, rfl, by decide⟩
theorem kX8_missed_X8_bruiseOf : jKs mX8_missed 40 yX8_bruiseOf wsX8_bruiseOf rmX8_bruiseOf 1 := ⟨gX8_missed_X8_bruiseOf, ⟨_, _, _, _, rfl, by decide⟩, by decide +kernel, rfl, rfl, by decide⟩
set_option maxRecDepth 100000 in
set_option maxHeartbeats 4000000 in
theorem c_X8_missed (E : jE) (o a : Nat) (fs : List Value) (f : Int → Int) (x : Nat → Int → Int) (k t : Int) (hx : sOK x) (hr : RelR x f) (hk : 0 ≤ k ∧ k < x 9 0) (ht : 0 ≤ t ∧ t < 2147483648) : jMI E yX8_missed wsX8_missed rmX8_missed [.ref o, .int (jI k), .int (jI t)] (wMs E o a fs f) (tShort (x 0 k) t) (wMs E o a fs f) := by
  refine jMI_of (cc := cX8_missed) (maxL := 4) (ret := (some .int)) [(0, .ref o), (1, .int (jI k)), (2, .int (jI t))] (by decide) rfl rfl (Nat.le_of_ble_eq_true rfl) (fun C => ?_)
  show jG mX8_missed E C (jQi E C (tShort (x 0 k) t) (wMs E o a fs f)) 0 0 0 [(0, .ref o), (1, .int (jI k)), (2, .int (jI t))] [] (wMs E o a fs f)
  have r9 : 0 ≤ x 9 0 ∧ x 9 0 ≤ 8 := hx 9
  have r0 : ∀ i, 0 ≤ x 0 i ∧ x 0 i < 404000 := hx 0
  have r1 : ∀ i, 0 ≤ x 1 i ∧ x 1 i ≤ 3 := hx 1
  obtain ⟨q1, q2, q3, q4⟩ := hr.2.2 k hk.1 hk.2
  have w1 := tW_rng (t := x 0 k) (by have := r0 k; omega)
  have w2 := tW_rng (t := t) (by omega)
  have g1 := tR_rng t
  have g2 := tB_rng t
  have g3 := tR_rng (x 0 k)
  have g4 := tB_rng (x 0 k)
  refine j_iload_n 1 1 dX8_missed_0 rfl rfl ?_
  refine j_callSi [] 4 [_, _] (c_X8_ruleAt E _ ) rfl kX8_missed_X8_ruleAt rfl rfl rfl rfl rfl (Nat.le_of_ble_eq_true rfl) (by decide) dX8_missed_1 rfl ?_
  refine j_istore_n 5 [_, _, _, _] dX8_missed_4 rfl (by decide) rfl ?_
  refine j_iload_n 3 6 dX8_missed_5 rfl rfl ?_
  refine j_callSi [] 9 [_, _] (c_X8_weightOf E _ (by omega)) rfl kX8_missed_X8_weightOf rfl rfl rfl rfl rfl (Nat.le_of_ble_eq_true rfl) (by decide) dX8_missed_6 rfl ?_
  refine j_aload_n 1 10 dX8_missed_9 rfl rfl ?_
  refine j_get 0 0 1 13 in_X8_missed_X8 dX8_missed_10 rfl rfl rfl (by decide) rfl rfl ?_
  refine j_iload_n 0 14 dX8_missed_13 rfl rfl ?_
  refine j_iald 1 15 dX8_missed_14 rfl rfl (by decide) (by omega) ?_
  refine j_icmp_ge 22 18 dX8_missed_15 rfl (by decide) (by omega) (by omega) (fun h_15 => ?_) (fun h_15 => ?_)
  · skip
    refine j_iconst 23 dX8_missed_22 rfl ?_
    refine j_iload_n 3 24 dX8_missed_23 rfl rfl ?_
    refine j_callSi [] 27 [_, _] (c_X8_redOf E _ (by omega)) rfl kX8_missed_X8_redOf rfl rfl rfl rfl rfl (Nat.le_of_ble_eq_true rfl) (by decide) dX8_missed_24 rfl ?_
    refine j_aload_n 1 28 dX8_missed_27 rfl rfl ?_
    refine j_get 0 0 1 31 in_X8_missed_X8 dX8_missed_28 rfl rfl rfl (by decide) rfl rfl ?_
    refine j_iload_n 0 32 dX8_missed_31 rfl rfl ?_
    refine j_iconst 33 dX8_missed_32 rfl ?_
    refine j_iadd 34 dX8_missed_33 rfl ?_
    refine j_iald 1 35 dX8_missed_34 rfl rfl (by decide) (by omega) ?_
    refine j_icmp_ge 42 38 dX8_missed_35 rfl (by decide) (by omega) (by omega) (fun h_35 => ?_) (fun h_35 => ?_)
    · skip
      refine j_iconst 43 dX8_missed_42 rfl ?_
      refine j_iadd 44 dX8_missed_43 rfl ?_
      refine j_iload_n 3 45 dX8_missed_44 rfl rfl ?_
      refine j_callSi [] 48 [_, _] (c_X8_bruiseOf E _ (by omega)) rfl kX8_missed_X8_bruiseOf rfl rfl rfl rfl rfl (Nat.le_of_ble_eq_true rfl) (by decide) dX8_missed_45 rfl ?_
      refine j_aload_n 1 49 dX8_missed_48 rfl rfl ?_
      refine j_get 0 0 1 52 in_X8_missed_X8 dX8_missed_49 rfl rfl rfl (by decide) rfl rfl ?_
      refine j_iload_n 0 53 dX8_missed_52 rfl rfl ?_
      refine j_iconst 54 dX8_missed_53 rfl ?_
      refine j_iadd 55 dX8_missed_54 rfl ?_
      refine j_iald 1 56 dX8_missed_55 rfl rfl (by decide) (by omega) ?_
      refine j_icmp_le 63 59 dX8_missed_56 rfl (by decide) (by omega) (by omega) (fun h_56 => ?_) (fun h_56 => ?_)
      · skip
        refine j_iconst 64 dX8_missed_63 rfl ?_
        refine j_iadd 65 dX8_missed_64 rfl ?_
        exact j_iret dX8_missed_65 rfl (by congr 1; simp only [tShort]; (repeat' split) <;> omega) (by rfl)
      · skip
        refine j_iconst 60 dX8_missed_59 rfl ?_
        refine j_goto 64 dX8_missed_60 (by decide) ?_
        refine j_iadd 65 dX8_missed_64 rfl ?_
        exact j_iret dX8_missed_65 rfl (by congr 1; simp only [tShort]; (repeat' split) <;> omega) (by rfl)
    · skip
      refine j_iconst 39 dX8_missed_38 rfl ?_
      refine j_goto 43 dX8_missed_39 (by decide) ?_
      refine j_iadd 44 dX8_missed_43 rfl ?_
      refine j_iload_n 3 45 dX8_missed_44 rfl rfl ?_
      refine j_callSi [] 48 [_, _] (c_X8_bruiseOf E _ (by omega)) rfl kX8_missed_X8_bruiseOf rfl rfl rfl rfl rfl (Nat.le_of_ble_eq_true rfl) (by decide) dX8_missed_45 rfl ?_
      refine j_aload_n 1 49 dX8_missed_48 rfl rfl ?_
      refine j_get 0 0 1 52 in_X8_missed_X8 dX8_missed_49 rfl rfl rfl (by decide) rfl rfl ?_
      refine j_iload_n 0 53 dX8_missed_52 rfl rfl ?_
      refine j_iconst 54 dX8_missed_53 rfl ?_
      refine j_iadd 55 dX8_missed_54 rfl ?_
      refine j_iald 1 56 dX8_missed_55 rfl rfl (by decide) (by omega) ?_
      refine j_icmp_le 63 59 dX8_missed_56 rfl (by decide) (by omega) (by omega) (fun h_56 => ?_) (fun h_56 => ?_)
      · skip
        refine j_iconst 64 dX8_missed_63 rfl ?_
        refine j_iadd 65 dX8_missed_64 rfl ?_
        exact j_iret dX8_missed_65 rfl (by congr 1; simp only [tShort]; (repeat' split) <;> omega) (by rfl)
      · skip
        refine j_iconst 60 dX8_missed_59 rfl ?_
        refine j_goto 64 dX8_missed_60 (by decide) ?_
        refine j_iadd 65 dX8_missed_64 rfl ?_
        exact j_iret dX8_missed_65 rfl (by congr 1; simp only [tShort]; (repeat' split) <;> omega) (by rfl)
  · skip
    refine j_iconst 19 dX8_missed_18 rfl ?_
    refine j_goto 23 dX8_missed_19 (by decide) ?_
    refine j_iload_n 3 24 dX8_missed_23 rfl rfl ?_
    refine j_callSi [] 27 [_, _] (c_X8_redOf E _ (by omega)) rfl kX8_missed_X8_redOf rfl rfl rfl rfl rfl (Nat.le_of_ble_eq_true rfl) (by decide) dX8_missed_24 rfl ?_
    refine j_aload_n 1 28 dX8_missed_27 rfl rfl ?_
    refine j_get 0 0 1 31 in_X8_missed_X8 dX8_missed_28 rfl rfl rfl (by decide) rfl rfl ?_
    refine j_iload_n 0 32 dX8_missed_31 rfl rfl ?_
    refine j_iconst 33 dX8_missed_32 rfl ?_
    refine j_iadd 34 dX8_missed_33 rfl ?_
    refine j_iald 1 35 dX8_missed_34 rfl rfl (by decide) (by omega) ?_
    refine j_icmp_ge 42 38 dX8_missed_35 rfl (by decide) (by omega) (by omega) (fun h_35 => ?_) (fun h_35 => ?_)
    · skip
      refine j_iconst 43 dX8_missed_42 rfl ?_
      refine j_iadd 44 dX8_missed_43 rfl ?_
      refine j_iload_n 3 45 dX8_missed_44 rfl rfl ?_
      refine j_callSi [] 48 [_, _] (c_X8_bruiseOf E _ (by omega)) rfl kX8_missed_X8_bruiseOf rfl rfl rfl rfl rfl (Nat.le_of_ble_eq_true rfl) (by decide) dX8_missed_45 rfl ?_
      refine j_aload_n 1 49 dX8_missed_48 rfl rfl ?_
      refine j_get 0 0 1 52 in_X8_missed_X8 dX8_missed_49 rfl rfl rfl (by decide) rfl rfl ?_
      refine j_iload_n 0 53 dX8_missed_52 rfl rfl ?_
      refine j_iconst 54 dX8_missed_53 rfl ?_
      refine j_iadd 55 dX8_missed_54 rfl ?_
      refine j_iald 1 56 dX8_missed_55 rfl rfl (by decide) (by omega) ?_
      refine j_icmp_le 63 59 dX8_missed_56 rfl (by decide) (by omega) (by omega) (fun h_56 => ?_) (fun h_56 => ?_)
      · skip
        refine j_iconst 64 dX8_missed_63 rfl ?_
        refine j_iadd 65 dX8_missed_64 rfl ?_
        exact j_iret dX8_missed_65 rfl (by congr 1; simp only [tShort]; (repeat' split) <;> omega) (by rfl)
      · skip
        refine j_iconst 60 dX8_missed_59 rfl ?_
        refine j_goto 64 dX8_missed_60 (by decide) ?_
        refine j_iadd 65 dX8_missed_64 rfl ?_
        exact j_iret dX8_missed_65 rfl (by congr 1; simp only [tShort]; (repeat' split) <;> omega) (by rfl)
    · skip
      refine j_iconst 39 dX8_missed_38 rfl ?_
      refine j_goto 43 dX8_missed_39 (by decide) ?_
      refine j_iadd 44 dX8_missed_43 rfl ?_
      refine j_iload_n 3 45 dX8_missed_44 rfl rfl ?_
      refine j_callSi [] 48 [_, _] (c_X8_bruiseOf E _ (by omega)) rfl kX8_missed_X8_bruiseOf rfl rfl rfl rfl rfl (Nat.le_of_ble_eq_true rfl) (by decide) dX8_missed_45 rfl ?_
      refine j_aload_n 1 49 dX8_missed_48 rfl rfl ?_
      refine j_get 0 0 1 52 in_X8_missed_X8 dX8_missed_49 rfl rfl rfl (by decide) rfl rfl ?_
      refine j_iload_n 0 53 dX8_missed_52 rfl rfl ?_
      refine j_iconst 54 dX8_missed_53 rfl ?_
      refine j_iadd 55 dX8_missed_54 rfl ?_
      refine j_iald 1 56 dX8_missed_55 rfl rfl (by decide) (by omega) ?_
      refine j_icmp_le 63 59 dX8_missed_56 rfl (by decide) (by omega) (by omega) (fun h_56 => ?_) (fun h_56 => ?_)
      · skip
        refine j_iconst 64 dX8_missed_63 rfl ?_
        refine j_iadd 65 dX8_missed_64 rfl ?_
        exact j_iret dX8_missed_65 rfl (by congr 1; simp only [tShort]; (repeat' split) <;> omega) (by rfl)
      · skip
        refine j_iconst 60 dX8_missed_59 rfl ?_
        refine j_goto 64 dX8_missed_60 (by decide) ?_
        refine j_iadd 65 dX8_missed_64 rfl ?_
        exact j_iret dX8_missed_65 rfl (by congr 1; simp only [tShort]; (repeat' split) <;> omega) (by rfl)
set_option maxRecDepth 20000 in
theorem in_X8_laneOf_X8 : ∀ x ∈ u_ws RX8 TX8 11, x ∈ wsX8_laneOf := by decide +kernel
theorem kX8_laneOf_X8_missed : jKv mX8_laneOf 53 yX8_missed wsX8_missed rmX8_missed 2 := ⟨gX8_laneOf_X8_missed, ⟨_, _, _, _, rfl, by decide⟩, by decide +kernel, rfl, rfl, by decide⟩
theorem kX8_laneOf_X8_ruleAt : jKs mX8_laneOf 50 yX8_ruleAt wsX8_ruleAt rmX8_ruleAt 1 := ⟨gX8_laneOf_X8_ruleAt, ⟨_, _, _, _, rfl, by decide⟩, by decide +kernel, rfl, rfl, by decide⟩
set_option maxRecDepth 100000 in
set_option maxHeartbeats 4000000 in
theorem c_X8_laneOf (E : jE) (o a : Nat) (fs : List Value) (f : Int → Int) (x : Nat → Int → Int) (t : Int) (hx : sOK x) (hr : RelR x f) (ht : 0 ≤ t ∧ t < 2147483648) : jMI E yX8_laneOf wsX8_laneOf rmX8_laneOf [.ref o, .int (jI t)] (wMs E o a fs f) (sLn x t) (wMs E o a fs f) := by
  refine jMI_of (cc := cX8_laneOf) (maxL := 3) (ret := (some .int)) [(0, .ref o), (1, .int (jI t))] (by decide) rfl rfl (Nat.le_of_ble_eq_true rfl) (fun C => ?_)
  show jG mX8_laneOf E C (jQi E C (sLn x t) (wMs E o a fs f)) 0 0 0 [(0, .ref o), (1, .int (jI t))] [] (wMs E o a fs f)
  have r9 : 0 ≤ x 9 0 ∧ x 9 0 ≤ 8 := hx 9
  have r0 : ∀ i, 0 ≤ x 0 i ∧ x 0 i < 404000 := hx 0
  have r1 : ∀ i, 0 ≤ x 1 i ∧ x 1 i ≤ 3 := hx 1
  have s4 : x 9 0 = f 4 := hr.2.1
  refine j_iconst 1 dX8_laneOf_0 rfl ?_
  refine j_istore_n 2 [_, _, _] dX8_laneOf_1 rfl (by decide) rfl ?_
  have key2 : ∀ (fu : Nat) (i : Int), x 9 0 < i + fu → 0 ≤ i ∧ i ≤ x 9 0 → sLn x t = lnF (x 0) (x 1) t (x 9 0 - i).toNat i → jG mX8_laneOf E C (jQi E C (sLn x t) (wMs E o a fs f)) 0 0 2 [(0, .ref o), (1, .int (jI t)), (2, .int (jI i))] [] (wMs E o a fs f) := by
    intro fu
    induction fu with
    | zero => intro i h1 h2 he; exact absurd h1 (by omega)
    | succ fu ih =>
      intro i h1 h2 he
      refine j_iload_n 2 3 dX8_laneOf_2 rfl rfl ?_
      refine j_aload_n 0 4 dX8_laneOf_3 rfl rfl ?_
      refine j_get 0 0 1 7 in_X8_laneOf_X8 dX8_laneOf_4 rfl rfl rfl (by decide) rfl rfl ?_
      refine j_iconst 8 dX8_laneOf_7 rfl ?_
      refine j_iald 1 9 dX8_laneOf_8 rfl rfl (by decide) (by omega) ?_
      refine j_icmp_ge 39 12 dX8_laneOf_9 rfl (by decide) (by omega) (by omega) (fun h_9 => ?_) (fun h_9 => ?_)
      · skip
        obtain rfl : i = x 9 0 := by omega
        rw [Int.sub_self] at he
        change _ = (4 : Int) at he
        refine j_iconst 40 dX8_laneOf_39 rfl ?_
        exact j_iret dX8_laneOf_40 rfl (by rw [he]) (by rfl)
      · skip
        rw [show (x 9 0 - i).toNat = (x 9 0 - (i + 1)).toNat + 1 by omega, lnF] at he
        refine j_aload_n 0 13 dX8_laneOf_12 rfl rfl ?_
        refine j_iload_n 2 14 dX8_laneOf_13 rfl rfl ?_
        refine j_iload_n 1 15 dX8_laneOf_14 rfl rfl ?_
        refine j_callVi 0 [0, 1] 18 [_, _] (c_X8_missed E _ _ _ _ _ _ _ (by exact hx) (by exact hr) (by omega) (by omega)) rfl kX8_laneOf_X8_missed rfl rfl rfl rfl rfl rfl rfl (Nat.le_of_ble_eq_true rfl) (by decide) dX8_laneOf_15 rfl ?_
        have hs := tShort_rng (x 0 i) t
        refine j_if_ne 33 21 dX8_laneOf_18 rfl (by decide) (by omega) (fun h_18 => ?_) (fun h_18 => ?_)
        · skip
          refine j_iinc 2 36 [_, _, _] dX8_laneOf_33 rfl rfl (by decide) rfl ?_
          refine j_goto 2 dX8_laneOf_36 (by decide) ?_
          refine j_perm [1, 2, 0] rfl ?_
          rw [if_neg h_18] at he
          exact ih (i + 1) (by omega) (by omega) he
        · skip
          rw [if_pos h_18, (hr.2.2 i h2.1 (by omega)).2.2.2] at he
          refine j_aload_n 0 22 dX8_laneOf_21 rfl rfl ?_
          refine j_get 0 0 1 25 in_X8_laneOf_X8 dX8_laneOf_22 rfl rfl rfl (by decide) rfl rfl ?_
          refine j_iload_n 2 26 dX8_laneOf_25 rfl rfl ?_
          refine j_callSi [] 29 [_, _] (c_X8_ruleAt E _ ) rfl kX8_laneOf_X8_ruleAt rfl rfl rfl rfl rfl (Nat.le_of_ble_eq_true rfl) (by decide) dX8_laneOf_26 rfl ?_
          refine j_iconst 30 dX8_laneOf_29 rfl ?_
          refine j_iadd 31 dX8_laneOf_30 rfl ?_
          refine j_iald 1 32 dX8_laneOf_31 rfl rfl (by decide) (by omega) ?_
          exact j_iret dX8_laneOf_32 rfl (by rw [he]) (by rfl)
  refine j_perm [1, 2, 0] rfl ?_
  exact key2 ((x 9 0).toNat + 1) 0 (by omega) (by omega) (by rw [Int.sub_zero]; rfl)
set_option maxRecDepth 20000 in
theorem in_X8_laneFromLast_X8 : ∀ x ∈ u_ws RX8 TX8 11, x ∈ wsX8_laneFromLast := by decide +kernel
theorem kX8_laneFromLast_X8_missed : jKv mX8_laneFromLast 53 yX8_missed wsX8_missed rmX8_missed 2 := ⟨gX8_laneFromLast_X8_missed, ⟨_, _, _, _, rfl, by decide⟩, by decide +kernel, rfl, rfl, by decide⟩
theorem kX8_laneFromLast_X8_ruleAt : jKs mX8_laneFromLast 50 yX8_ruleAt wsX8_ruleAt rmX8_ruleAt 1 := ⟨gX8_laneFromLast_X8_ruleAt, ⟨_, _, _, _, rfl, by decide⟩, by decide +kernel, rfl, rfl, by decide⟩
set_option maxRecDepth 100000 in
set_option maxHeartbeats 4000000 in
theorem c_X8_laneFromLast (E : jE) (o a : Nat) (fs : List Value) (f : Int → Int) (x : Nat → Int → Int) (t : Int) (hx : sOK x) (hr : RelR x f) (ht : 0 ≤ t ∧ t < 2147483648) : jMI E yX8_laneFromLast wsX8_laneFromLast rmX8_laneFromLast [.ref o, .int (jI t)] (wMs E o a fs f) (sLn x t) (wMs E o a fs f) := by
  refine jMI_of (cc := cX8_laneFromLast) (maxL := 4) (ret := (some .int)) [(0, .ref o), (1, .int (jI t))] (by decide) rfl rfl (Nat.le_of_ble_eq_true rfl) (fun C => ?_)
  show jG mX8_laneFromLast E C (jQi E C (sLn x t) (wMs E o a fs f)) 0 0 0 [(0, .ref o), (1, .int (jI t))] [] (wMs E o a fs f)
  have r9 : 0 ≤ x 9 0 ∧ x 9 0 ≤ 8 := hx 9
  have r0 : ∀ i, 0 ≤ x 0 i ∧ x 0 i < 404000 := hx 0
  have r1 : ∀ i, 0 ≤ x 1 i ∧ x 1 i ≤ 3 := hx 1
  have s4 : x 9 0 = f 4 := hr.2.1
  refine j_iconst 1 dX8_laneFromLast_0 rfl ?_
  refine j_istore_n 2 [_, _, _] dX8_laneFromLast_1 rfl (by decide) rfl ?_
  refine j_aload_n 1 3 dX8_laneFromLast_2 rfl rfl ?_
  refine j_get 0 0 1 6 in_X8_laneFromLast_X8 dX8_laneFromLast_3 rfl rfl rfl (by decide) rfl rfl ?_
  refine j_iconst 7 dX8_laneFromLast_6 rfl ?_
  refine j_iald 1 8 dX8_laneFromLast_7 rfl rfl (by decide) (by omega) ?_
  refine j_iconst 9 dX8_laneFromLast_8 rfl ?_
  refine j_isub 10 dX8_laneFromLast_9 rfl ?_
  refine j_istore_n 11 [_, _, _, _] dX8_laneFromLast_10 rfl (by decide) rfl ?_
  have key11 : ∀ (fu : Nat) (i : Int), i + 1 < fu → -1 ≤ i ∧ i < x 9 0 → jG mX8_laneFromLast E C (jQi E C (sLn x t) (wMs E o a fs f)) 0 0 11 [(0, .ref o), (1, .int (jI t)), (2, .int (jI (lnF (x 0) (x 1) t (x 9 0 - (i + 1)).toNat (i + 1)))), (3, .int (jI i))] [] (wMs E o a fs f) := by
    intro fu
    induction fu with
    | zero => intro i h1 h2; exact absurd h1 (by omega)
    | succ fu ih =>
      intro i h1 h2
      refine j_iload_n 3 12 dX8_laneFromLast_11 rfl rfl ?_
      refine j_if_lt 46 15 dX8_laneFromLast_12 rfl (by decide) (by omega) (fun h_12 => ?_) (fun h_12 => ?_)
      · skip
        obtain rfl : i = -1 := by omega
        rw [show (x 9 0 - (-1 + 1)).toNat = (x 9 0).toNat by omega, show (-1 + 1 : Int) = 0 by omega]
        refine j_iload_n 2 47 dX8_laneFromLast_46 rfl rfl ?_
        exact j_iret dX8_laneFromLast_47 rfl (by rfl) (by rfl)
      · skip
        refine j_aload_n 0 16 dX8_laneFromLast_15 rfl rfl ?_
        refine j_iload_n 3 17 dX8_laneFromLast_16 rfl rfl ?_
        refine j_iload_n 1 18 dX8_laneFromLast_17 rfl rfl ?_
        refine j_callVi 0 [0, 1] 21 [_, _] (c_X8_missed E _ _ _ _ _ _ _ (by exact hx) (by exact hr) (by omega) (by omega)) rfl kX8_laneFromLast_X8_missed rfl rfl rfl rfl rfl rfl rfl (Nat.le_of_ble_eq_true rfl) (by decide) dX8_laneFromLast_18 rfl ?_
        have hs := tShort_rng (x 0 i) t
        refine j_if_ne 38 24 dX8_laneFromLast_21 rfl (by decide) (by omega) (fun h_21 => ?_) (fun h_21 => ?_)
        · skip
          refine j_iload_n 2 39 dX8_laneFromLast_38 rfl rfl ?_
          refine j_istore_n 40 [_, _, _, _] dX8_laneFromLast_39 rfl (by decide) rfl ?_
          refine j_iinc 3 43 [_, _, _, _] dX8_laneFromLast_40 rfl rfl (by decide) rfl ?_
          refine j_goto 11 dX8_laneFromLast_43 (by decide) ?_
          refine j_perm [2, 3, 1, 0] rfl ?_
          have g := ih (i - 1) (by omega) (by omega)
          rw [show i - 1 + 1 = i by omega, show (x 9 0 - i).toNat = (x 9 0 - (i + 1)).toNat + 1 by omega, lnF] at g
          first
            | (rw [if_pos h_21, (hr.2.2 i (by omega) (by omega)).2.2.2] at g; exact g)
            | (rw [if_neg h_21] at g; exact g)
        · skip
          refine j_aload_n 0 25 dX8_laneFromLast_24 rfl rfl ?_
          refine j_get 0 0 1 28 in_X8_laneFromLast_X8 dX8_laneFromLast_25 rfl rfl rfl (by decide) rfl rfl ?_
          refine j_iload_n 3 29 dX8_laneFromLast_28 rfl rfl ?_
          refine j_callSi [] 32 [_, _] (c_X8_ruleAt E _ ) rfl kX8_laneFromLast_X8_ruleAt rfl rfl rfl rfl rfl (Nat.le_of_ble_eq_true rfl) (by decide) dX8_laneFromLast_29 rfl ?_
          refine j_iconst 33 dX8_laneFromLast_32 rfl ?_
          refine j_iadd 34 dX8_laneFromLast_33 rfl ?_
          refine j_iald 1 35 dX8_laneFromLast_34 rfl rfl (by decide) (by omega) ?_
          refine j_goto 39 dX8_laneFromLast_35 (by decide) ?_
          refine j_istore_n 40 [_, _, _, _] dX8_laneFromLast_39 rfl (by decide) rfl ?_
          refine j_iinc 3 43 [_, _, _, _] dX8_laneFromLast_40 rfl rfl (by decide) rfl ?_
          refine j_goto 11 dX8_laneFromLast_43 (by decide) ?_
          refine j_perm [2, 3, 1, 0] rfl ?_
          have g := ih (i - 1) (by omega) (by omega)
          rw [show i - 1 + 1 = i by omega, show (x 9 0 - i).toNat = (x 9 0 - (i + 1)).toNat + 1 by omega, lnF] at g
          first
            | (rw [if_pos h_21, (hr.2.2 i (by omega) (by omega)).2.2.2] at g; exact g)
            | (rw [if_neg h_21] at g; exact g)
  refine j_perm [2, 3, 1, 0] rfl ?_
  have g := key11 ((x 9 0).toNat + 1) (x 9 0 - 1) (by omega) (by omega)
  rw [show (x 9 0 - (x 9 0 - 1 + 1)).toNat = 0 by omega, s4] at g
  exact g
set_option maxRecDepth 20000 in
theorem in_X8_falls_X8 : ∀ x ∈ u_ws RX8 TX8 11, x ∈ wsX8_falls := by decide +kernel
theorem kX8_falls_X8_boxAt : jKs mX8_falls 57 yX8_boxAt wsX8_boxAt rmX8_boxAt 1 := ⟨gX8_falls_X8_boxAt, ⟨_, _, _, _, rfl, by decide⟩, by decide +kernel, rfl, rfl, by decide⟩
set_option maxRecDepth 100000 in
set_option maxHeartbeats 4000000 in
theorem c_X8_falls (E : jE) (o a : Nat) (fs : List Value) (f : Int → Int) (l t : Int) (hl : 0 ≤ l ∧ l ≤ 4) (hn : 0 ≤ f (85 + l) ∧ f (85 + l) ≤ 600) : jMV E yX8_falls wsX8_falls rmX8_falls [.ref o, .int (jI l), .int (jI t)] (wMs E o a fs f) (wMs E o a fs (fFalls f l t)) := by
  refine jMV_of (cc := cX8_falls) (maxL := 3) (ret := none) [(0, .ref o), (1, .int (jI l)), (2, .int (jI t))] (by decide) rfl rfl (Nat.le_of_ble_eq_true rfl) (fun C => ?_)
  show jG mX8_falls E C (jQv E C (wMs E o a fs (fFalls f l t))) 0 0 0 [(0, .ref o), (1, .int (jI l)), (2, .int (jI t))] [] (wMs E o a fs f)
  have b1 : 90 ≤ bxA l ∧ bxA l ≤ 176 := by unfold bxA; split <;> omega
  refine j_aload_n 0 1 dX8_falls_0 rfl rfl ?_
  refine j_get 0 0 1 4 in_X8_falls_X8 dX8_falls_1 rfl rfl rfl (by decide) rfl rfl ?_
  refine j_iload_n 1 5 dX8_falls_4 rfl rfl ?_
  refine j_callSi [] 8 [_, _] (c_X8_boxAt E _ (by omega)) rfl kX8_falls_X8_boxAt rfl rfl rfl rfl rfl (Nat.le_of_ble_eq_true rfl) (by decide) dX8_falls_5 rfl ?_
  refine j_aload_n 0 9 dX8_falls_8 rfl rfl ?_
  refine j_get 0 0 1 12 in_X8_falls_X8 dX8_falls_9 rfl rfl rfl (by decide) rfl rfl ?_
  refine j_bipush 14 dX8_falls_12 rfl (by decide) ?_
  refine j_iload_n 1 15 dX8_falls_14 rfl rfl ?_
  refine j_iadd 16 dX8_falls_15 rfl ?_
  refine j_iald 1 17 dX8_falls_16 rfl rfl (by decide) (by omega) ?_
  refine j_iadd 18 dX8_falls_17 rfl ?_
  refine j_iload_n 2 19 dX8_falls_18 rfl rfl ?_
  refine j_iast 1 20 [_, _] dX8_falls_19 rfl rfl (by decide) (by omega) rfl ?_
  refine j_aload_n 0 21 dX8_falls_20 rfl rfl ?_
  refine j_get 0 0 1 24 in_X8_falls_X8 dX8_falls_21 rfl rfl rfl (by decide) rfl rfl ?_
  refine j_bipush 26 dX8_falls_24 rfl (by decide) ?_
  refine j_iload_n 1 27 dX8_falls_26 rfl rfl ?_
  refine j_iadd 28 dX8_falls_27 rfl ?_
  refine j_dup2 29 dX8_falls_28 rfl rfl rfl ?_
  refine j_iald 1 30 dX8_falls_29 rfl rfl (by decide) (by omega) ?_
  refine j_iconst 31 dX8_falls_30 rfl ?_
  refine j_iadd 32 dX8_falls_31 rfl ?_
  refine j_iast 1 33 [_, _] dX8_falls_32 rfl rfl (by decide) (by omega) rfl ?_
  exact j_vret dX8_falls_33 rfl (by rfl)
theorem kX8_gradeOf_X8_cupAt : jKs mX8_gradeOf 60 yX8_cupAt wsX8_cupAt rmX8_cupAt 1 := ⟨gX8_gradeOf_X8_cupAt, ⟨_, _, _, _, rfl, by decide⟩, by decide +kernel, rfl, rfl, by decide⟩
set_option maxRecDepth 20000 in
theorem in_X8_gradeOf_X8 : ∀ x ∈ u_ws RX8 TX8 11, x ∈ wsX8_gradeOf := by decide +kernel
theorem kX8_gradeOf_X8_seen : jKv mX8_gradeOf 63 yX8_seen wsX8_seen rmX8_seen 1 := ⟨gX8_gradeOf_X8_seen, ⟨_, _, _, _, rfl, by decide⟩, by decide +kernel, rfl, rfl, by decide⟩
theorem kX8_gradeOf_X8_laneOf : jKv mX8_gradeOf 66 yX8_laneOf wsX8_laneOf rmX8_laneOf 1 := ⟨gX8_gradeOf_X8_laneOf, ⟨_, _, _, _, rfl, by decide⟩, by decide +kernel, rfl, rfl, by decide⟩
set_option maxRecDepth 100000 in
set_option maxHeartbeats 4000000 in
theorem c_X8_gradeOf (E : jE) (o a : Nat) (fs : List Value) (f : Int → Int) (x : Nat → Int → Int) (hx : sOK x) (hr : RelR x f) (hc : x 2 0 = f 37 ∧ 1 ≤ x 2 0) (ha : x 4 0 = f 38) : jMI E yX8_gradeOf wsX8_gradeOf rmX8_gradeOf [.ref o, .int (jI 0)] (wMs E o a fs f) (sGtc x) (wMs E o a fs f) := by
  refine jMI_of (cc := cX8_gradeOf) (maxL := 3) (ret := (some .int)) [(0, .ref o), (1, .int (jI 0))] (by decide) rfl rfl (Nat.le_of_ble_eq_true rfl) (fun C => ?_)
  show jG mX8_gradeOf E C (jQi E C (sGtc x) (wMs E o a fs f)) 0 0 0 [(0, .ref o), (1, .int (jI 0))] [] (wMs E o a fs f)
  have r2 : ∀ i, 0 ≤ x 2 i ∧ x 2 i ≤ 2 := hx 2
  have r3 : ∀ i, -1 ≤ x 3 i ∧ x 3 i ≤ 4 := hx 3
  have r4 : ∀ i, 0 ≤ x 4 i ∧ x 4 i < 404000 := hx 4
  have r20 := r2 0
  have r40 := r4 0
  have e1 : f (37 + 4 * 0) = f 37 := rfl
  have e2 : f (37 + 4 * 0 + 1) = f 38 := rfl
  refine j_iload_n 1 1 dX8_gradeOf_0 rfl rfl ?_
  refine j_callSi [] 4 [_, _] (c_X8_cupAt E _ ) rfl kX8_gradeOf_X8_cupAt rfl rfl rfl rfl rfl (Nat.le_of_ble_eq_true rfl) (by decide) dX8_gradeOf_1 rfl ?_
  refine j_istore_n 5 [_, _, _] dX8_gradeOf_4 rfl (by decide) rfl ?_
  refine j_aload_n 1 6 dX8_gradeOf_5 rfl rfl ?_
  refine j_get 0 0 1 9 in_X8_gradeOf_X8 dX8_gradeOf_6 rfl rfl rfl (by decide) rfl rfl ?_
  refine j_iload_n 0 10 dX8_gradeOf_9 rfl rfl ?_
  refine j_iald 1 11 dX8_gradeOf_10 rfl rfl (by decide) (by omega) ?_
  refine j_iconst 12 dX8_gradeOf_11 rfl ?_
  refine j_icmp_ne 19 15 dX8_gradeOf_12 rfl (by decide) (by omega) (by omega) (fun h_12 => ?_) (fun h_12 => ?_)
  · skip
    have e : sGtc x = sLn x (sSee x (x 4 0)) := if_pos (by omega)
    rw [e]
    refine j_aload_n 1 20 dX8_gradeOf_19 rfl rfl ?_
    refine j_aload_n 1 21 dX8_gradeOf_20 rfl rfl ?_
    refine j_aload_n 1 22 dX8_gradeOf_21 rfl rfl ?_
    refine j_get 0 0 1 25 in_X8_gradeOf_X8 dX8_gradeOf_22 rfl rfl rfl (by decide) rfl rfl ?_
    refine j_iload_n 0 26 dX8_gradeOf_25 rfl rfl ?_
    refine j_iconst 27 dX8_gradeOf_26 rfl ?_
    refine j_iadd 28 dX8_gradeOf_27 rfl ?_
    refine j_iald 1 29 dX8_gradeOf_28 rfl rfl (by decide) (by omega) ?_
    rw [e2, ← ha]
    refine j_callVi 0 [0, 1] 32 [_, _] (c_X8_seen E _ _ _ _ _ _ (by exact hx) (by exact hr) (by exact r40)) rfl kX8_gradeOf_X8_seen rfl rfl rfl rfl rfl rfl rfl (Nat.le_of_ble_eq_true rfl) (by decide) dX8_gradeOf_29 rfl ?_
    refine j_callVi 0 [0, 1] 35 [_, _] (c_X8_laneOf E _ _ _ _ _ _ (by exact hx) (by exact hr) (by have := sSee_rng (t := x 4 0) hx r40; omega)) rfl kX8_gradeOf_X8_laneOf rfl rfl rfl rfl rfl rfl rfl (Nat.le_of_ble_eq_true rfl) (by decide) dX8_gradeOf_32 rfl ?_
    exact j_iret dX8_gradeOf_35 rfl (by rfl) (by rfl)
  · skip
    have e : sGtc x = 4 := if_neg (by omega)
    rw [e]
    refine j_iconst 16 dX8_gradeOf_15 rfl ?_
    refine j_goto 35 dX8_gradeOf_16 (by decide) ?_
    exact j_iret dX8_gradeOf_35 rfl (by rfl) (by rfl)
set_option maxRecDepth 20000 in
theorem in_X8_grades_X8 : ∀ x ∈ u_ws RX8 TX8 11, x ∈ wsX8_grades := by decide +kernel
theorem kX8_grades_X8_gradeOf : jKv mX8_grades 69 yX8_gradeOf wsX8_gradeOf rmX8_gradeOf 1 := ⟨gX8_grades_X8_gradeOf, ⟨_, _, _, _, rfl, by decide⟩, by decide +kernel, rfl, rfl, by decide⟩
set_option maxRecDepth 100000 in
set_option maxHeartbeats 4000000 in
theorem c_X8_grades (E : jE) (o a : Nat) (fs : List Value) (f : Int → Int) (x : Nat → Int → Int) (hx : sOK x) (hr : RelR x f) (hc : x 2 0 = f 37) (ha : 1 ≤ x 2 0 → x 4 0 = f 38) : jMV E yX8_grades wsX8_grades rmX8_grades [.ref o] (wMs E o a fs f) (wMs E o a fs (fGrade f (sGtc x))) := by
  refine jMV_of (cc := cX8_grades) (maxL := 1) (ret := none) [(0, .ref o)] (by decide) rfl rfl (Nat.le_of_ble_eq_true rfl) (fun C => ?_)
  show jG mX8_grades E C (jQv E C (wMs E o a fs (fGrade f (sGtc x)))) 0 0 0 [(0, .ref o)] [] (wMs E o a fs f)
  have r2 : ∀ i, 0 ≤ x 2 i ∧ x 2 i ≤ 2 := hx 2
  have r3 : ∀ i, -1 ≤ x 3 i ∧ x 3 i ≤ 4 := hx 3
  have r4 : ∀ i, 0 ≤ x 4 i ∧ x 4 i < 404000 := hx 4
  have r20 := r2 0
  refine j_aload_n 0 1 dX8_grades_0 rfl rfl ?_
  refine j_get 0 0 1 4 in_X8_grades_X8 dX8_grades_1 rfl rfl rfl (by decide) rfl rfl ?_
  refine j_bipush 6 dX8_grades_4 rfl (by decide) ?_
  refine j_iald 1 7 dX8_grades_6 rfl rfl (by decide) (by omega) ?_
  refine j_if_le 51 10 dX8_grades_7 rfl (by decide) (by omega) (fun h_7 => ?_) (fun h_7 => ?_)
  · skip
    have e : fGrade f (sGtc x) = f := if_neg (by omega)
    rw [e]
    exact j_vret dX8_grades_51 rfl (by rfl)
  · skip
    have e : fGrade f (sGtc x) = jU (jU f 173 (f 173 + (if f 37 = 2 then 1 else 0))) 40 (sGtc x + 1) := if_pos (by omega)
    rw [e]
    refine j_aload_n 0 11 dX8_grades_10 rfl rfl ?_
    refine j_get 0 0 1 14 in_X8_grades_X8 dX8_grades_11 rfl rfl rfl (by decide) rfl rfl ?_
    refine j_sipush 17 dX8_grades_14 rfl (by decide) ?_
    refine j_dup2 18 dX8_grades_17 rfl rfl rfl ?_
    refine j_iald 1 19 dX8_grades_18 rfl rfl (by decide) (by omega) ?_
    refine j_aload_n 0 20 dX8_grades_19 rfl rfl ?_
    refine j_get 0 0 1 23 in_X8_grades_X8 dX8_grades_20 rfl rfl rfl (by decide) rfl rfl ?_
    refine j_bipush 25 dX8_grades_23 rfl (by decide) ?_
    refine j_iald 1 26 dX8_grades_25 rfl rfl (by decide) (by omega) ?_
    refine j_iconst 27 dX8_grades_26 rfl ?_
    refine j_icmp_ne 34 30 dX8_grades_27 rfl (by decide) (by omega) (by omega) (fun h_27 => ?_) (fun h_27 => ?_)
    · skip
      rw [if_neg h_27]
      refine j_iconst 35 dX8_grades_34 rfl ?_
      refine j_iadd 36 dX8_grades_35 rfl ?_
      refine j_iast 1 37 [_, _] dX8_grades_36 rfl rfl (by decide) (by omega) rfl ?_
      have n37 : ∀ z, jU f 173 z 37 = f 37 := fun z => jU_ne (by omega)
      have n38 : ∀ z, jU f 173 z 38 = f 38 := fun z => jU_ne (by omega)
      have hr2 : ∀ z, RelR x (jU f 173 z) := fun z => RelR_hi hx hr (by omega)
      refine j_aload_n 0 38 dX8_grades_37 rfl rfl ?_
      refine j_get 0 0 1 41 in_X8_grades_X8 dX8_grades_38 rfl rfl rfl (by decide) rfl rfl ?_
      refine j_bipush 43 dX8_grades_41 rfl (by decide) ?_
      refine j_aload_n 0 44 dX8_grades_43 rfl rfl ?_
      refine j_iconst 45 dX8_grades_44 rfl ?_
      refine j_callVi 0 [0, 1] 48 [_, _] (c_X8_gradeOf E _ _ _ _ _ (by exact hx) (by exact hr2 _) (by exact ⟨by rw [n37]; omega, by omega⟩) (by rw [n38]; exact ha (by omega))) rfl kX8_grades_X8_gradeOf rfl rfl rfl rfl rfl rfl rfl (Nat.le_of_ble_eq_true rfl) (by decide) dX8_grades_45 rfl ?_
      refine j_iconst 49 dX8_grades_48 rfl ?_
      refine j_iadd 50 dX8_grades_49 rfl ?_
      refine j_iast 1 51 [_, _] dX8_grades_50 rfl rfl (by decide) (by omega) rfl ?_
      exact j_vret dX8_grades_51 rfl (by rfl)
    · skip
      rw [if_pos h_27]
      refine j_iconst 31 dX8_grades_30 rfl ?_
      refine j_goto 35 dX8_grades_31 (by decide) ?_
      refine j_iadd 36 dX8_grades_35 rfl ?_
      refine j_iast 1 37 [_, _] dX8_grades_36 rfl rfl (by decide) (by omega) rfl ?_
      have n37 : ∀ z, jU f 173 z 37 = f 37 := fun z => jU_ne (by omega)
      have n38 : ∀ z, jU f 173 z 38 = f 38 := fun z => jU_ne (by omega)
      have hr2 : ∀ z, RelR x (jU f 173 z) := fun z => RelR_hi hx hr (by omega)
      refine j_aload_n 0 38 dX8_grades_37 rfl rfl ?_
      refine j_get 0 0 1 41 in_X8_grades_X8 dX8_grades_38 rfl rfl rfl (by decide) rfl rfl ?_
      refine j_bipush 43 dX8_grades_41 rfl (by decide) ?_
      refine j_aload_n 0 44 dX8_grades_43 rfl rfl ?_
      refine j_iconst 45 dX8_grades_44 rfl ?_
      refine j_callVi 0 [0, 1] 48 [_, _] (c_X8_gradeOf E _ _ _ _ _ (by exact hx) (by exact hr2 _) (by exact ⟨by rw [n37]; omega, by omega⟩) (by rw [n38]; exact ha (by omega))) rfl kX8_grades_X8_gradeOf rfl rfl rfl rfl rfl rfl rfl (Nat.le_of_ble_eq_true rfl) (by decide) dX8_grades_45 rfl ?_
      refine j_iconst 49 dX8_grades_48 rfl ?_
      refine j_iadd 50 dX8_grades_49 rfl ?_
      refine j_iast 1 51 [_, _] dX8_grades_50 rfl rfl (by decide) (by omega) rfl ?_
      exact j_vret dX8_grades_51 rfl (by rfl)
theorem kX8_moves_X8_cupAt : jKs mX8_moves 60 yX8_cupAt wsX8_cupAt rmX8_cupAt 1 := ⟨gX8_moves_X8_cupAt, ⟨_, _, _, _, rfl, by decide⟩, by decide +kernel, rfl, rfl, by decide⟩
set_option maxRecDepth 20000 in
theorem in_X8_moves_X8 : ∀ x ∈ u_ws RX8 TX8 11, x ∈ wsX8_moves := by decide +kernel
theorem kX8_moves_X8_falls : jKv mX8_moves 72 yX8_falls wsX8_falls rmX8_falls 2 := ⟨gX8_moves_X8_falls, ⟨_, _, _, _, rfl, by decide⟩, by decide +kernel, rfl, rfl, by decide⟩
set_option maxRecDepth 100000 in
set_option maxHeartbeats 4000000 in
theorem c_X8_moves (E : jE) (o a : Nat) (fs : List Value) (f : Int → Int) (hn : 0 ≤ f 81 ∧ f 81 ≤ 2) (hm : 0 ≤ f 89 ∧ f 89 ≤ 512) : jMI E yX8_moves wsX8_moves rmX8_moves [.ref o] (wMs E o a fs f) (f 81) (wMs E o a fs (fSh (fFo f (f 81).toNat))) := by
  refine jMI_of (cc := cX8_moves) (maxL := 4) (ret := (some .int)) [(0, .ref o)] (by decide) rfl rfl (Nat.le_of_ble_eq_true rfl) (fun C => ?_)
  show jG mX8_moves E C (jQi E C (f 81) (wMs E o a fs (fSh (fFo f (f 81).toNat)))) 0 0 0 [(0, .ref o)] [] (wMs E o a fs f)
  have e1 : f (37 + 4 * 11) = f 81 := rfl
  refine j_bipush 2 dX8_moves_0 rfl (by decide) ?_
  refine j_callSi [] 5 [_, _] (c_X8_cupAt E _ ) rfl kX8_moves_X8_cupAt rfl rfl rfl rfl rfl (Nat.le_of_ble_eq_true rfl) (by decide) dX8_moves_2 rfl ?_
  refine j_istore_n 6 [_, _] dX8_moves_5 rfl (by decide) rfl ?_
  refine j_aload_n 1 7 dX8_moves_6 rfl rfl ?_
  refine j_get 0 0 1 10 in_X8_moves_X8 dX8_moves_7 rfl rfl rfl (by decide) rfl rfl ?_
  refine j_iload_n 0 11 dX8_moves_10 rfl rfl ?_
  refine j_iald 1 12 dX8_moves_11 rfl rfl (by decide) (by omega) ?_
  rw [e1]
  refine j_istore_n 13 [_, _, _] dX8_moves_12 rfl (by decide) rfl ?_
  refine j_iconst 14 dX8_moves_13 rfl ?_
  refine j_istore_n 15 [_, _, _, _] dX8_moves_14 rfl (by decide) rfl ?_
  have key15 : ∀ (fu i : Nat), (f 81).toNat < i + fu → (i : Int) ≤ f 81 → jG mX8_moves E C (jQi E C (f 81) (wMs E o a fs (fSh (fFo f (f 81).toNat)))) 0 0 15 [(0, .ref o), (1, .int (jI 81)), (2, .int (jI (f 81))), (3, .int (jI (i : Int)))] [] (wMs E o a fs (fFo f i)) := by
    intro fu
    induction fu with
    | zero => intro i h1 h2; exact absurd h1 (by omega)
    | succ fu ih =>
      intro i h1 h2
      have fa := fFo_at f hm.1 i
      have fb : fFo f i (81 + 1 + i) = f (81 + 1 + i) := fa.1 _ (by omega)
      have fc : fFo f i (85 + 4) = f 89 + i := fa.2
      refine j_iload_n 3 16 dX8_moves_15 rfl rfl ?_
      refine j_iload_n 2 17 dX8_moves_16 rfl rfl ?_
      refine j_icmp_ge 41 20 dX8_moves_17 rfl (by decide) (by omega) (by omega) (fun h_17 => ?_) (fun h_17 => ?_)
      · skip
        obtain rfl : i = (f 81).toNat := by omega
        refine j_iload_n 1 42 dX8_moves_41 rfl rfl ?_
        refine j_iconst 43 dX8_moves_42 rfl ?_
        refine j_iadd 44 dX8_moves_43 rfl ?_
        refine j_istore_n 45 [_, _, _, _] dX8_moves_44 rfl (by decide) rfl ?_
        have key45 : ∀ (fu : Nat) (i : Int), i < fu → 40 ≤ i ∧ i ≤ 84 → jG mX8_moves E C (jQi E C (f 81) (wMs E o a fs (fSh (fFo f (f 81).toNat)))) 0 0 45 [(0, .ref o), (1, .int (jI 81)), (2, .int (jI (f 81))), (3, .int (jI i))] [] (wMs E o a fs (sh1 (fFo f (f 81).toNat) 4 i 84)) := by
          intro fu
          induction fu with
          | zero => intro i h1 h2; exact absurd h1 (by omega)
          | succ fu ih =>
            intro i h1 h2
            refine j_iload_n 3 46 dX8_moves_45 rfl rfl ?_
            refine j_bipush 48 dX8_moves_46 rfl (by decide) ?_
            refine j_icmp_lt 71 51 dX8_moves_48 rfl (by decide) (by omega) (by omega) (fun h_48 => ?_) (fun h_48 => ?_)
            · skip
              obtain rfl : i = 40 := by omega
              refine j_iconst 72 dX8_moves_71 rfl ?_
              refine j_istore_n 73 [_, _, _, _] dX8_moves_72 rfl (by decide) rfl ?_
              have key73 : ∀ (fu : Nat) (i : Int), 4 < i + fu → 0 ≤ i ∧ i ≤ 4 → jG mX8_moves E C (jQi E C (f 81) (wMs E o a fs (fSh (fFo f (f 81).toNat)))) 0 0 73 [(0, .ref o), (1, .int (jI 81)), (2, .int (jI (f 81))), (3, .int (jI i))] [] (wMs E o a fs (fZ (sh1 (fFo f (f 81).toNat) 4 40 84) 37 i)) := by
                intro fu
                induction fu with
                | zero => intro i h1 h2; exact absurd h1 (by omega)
                | succ fu ih =>
                  intro i h1 h2
                  refine j_iload_n 3 74 dX8_moves_73 rfl rfl ?_
                  refine j_iconst 75 dX8_moves_74 rfl ?_
                  refine j_icmp_ge 94 78 dX8_moves_75 rfl (by decide) (by omega) (by omega) (fun h_75 => ?_) (fun h_75 => ?_)
                  · skip
                    obtain rfl : i = 4 := by omega
                    rw [fSh_of]
                    refine j_iload_n 2 95 dX8_moves_94 rfl rfl ?_
                    exact j_iret dX8_moves_95 rfl (by rfl) (by rfl)
                  · skip
                    refine j_aload_n 0 79 dX8_moves_78 rfl rfl ?_
                    refine j_get 0 0 1 82 in_X8_moves_X8 dX8_moves_79 rfl rfl rfl (by decide) rfl rfl ?_
                    refine j_bipush 84 dX8_moves_82 rfl (by decide) ?_
                    refine j_iload_n 3 85 dX8_moves_84 rfl rfl ?_
                    refine j_iadd 86 dX8_moves_85 rfl ?_
                    refine j_iconst 87 dX8_moves_86 rfl ?_
                    refine j_iast 1 88 [_, _] dX8_moves_87 rfl rfl (by decide) (by omega) rfl ?_
                    refine j_iinc 3 91 [_, _, _, _] dX8_moves_88 rfl rfl (by decide) rfl ?_
                    refine j_goto 73 dX8_moves_91 (by decide) ?_
                    refine j_perm [1, 2, 3, 0] rfl ?_
                    rw [fZ_step (by omega)]
                    exact ih (i + 1) (by omega) (by omega)
              refine j_perm [1, 2, 3, 0] rfl ?_
              refine j_eqw (w' := wMs E o a fs (fZ (sh1 (fFo f (f 81).toNat) 4 40 84) 37 0)) (by rw [fZ_0]) ?_
              exact key73 5 0 (by omega) (by omega)
            · skip
              refine j_aload_n 0 52 dX8_moves_51 rfl rfl ?_
              refine j_get 0 0 1 55 in_X8_moves_X8 dX8_moves_52 rfl rfl rfl (by decide) rfl rfl ?_
              refine j_iload_n 3 56 dX8_moves_55 rfl rfl ?_
              refine j_aload_n 0 57 dX8_moves_56 rfl rfl ?_
              refine j_get 0 0 1 60 in_X8_moves_X8 dX8_moves_57 rfl rfl rfl (by decide) rfl rfl ?_
              refine j_iload_n 3 61 dX8_moves_60 rfl rfl ?_
              refine j_iconst 62 dX8_moves_61 rfl ?_
              refine j_isub 63 dX8_moves_62 rfl ?_
              refine j_iald 1 64 dX8_moves_63 rfl rfl (by decide) (by omega) ?_
              refine j_iast 1 65 [_, _] dX8_moves_64 rfl rfl (by decide) (by omega) rfl ?_
              refine j_iinc 3 68 [_, _, _, _] dX8_moves_65 rfl rfl (by decide) rfl ?_
              refine j_goto 45 dX8_moves_68 (by decide) ?_
              refine j_perm [1, 2, 3, 0] rfl ?_
              rw [sh1_step (by omega) (by omega)]
              exact ih (i - 1) (by omega) (by omega)
        refine j_perm [1, 2, 3, 0] rfl ?_
        refine j_eqw (w' := wMs E o a fs (sh1 (fFo f (f 81).toNat) 4 84 84)) (by rw [sh1_start (fFo f (f 81).toNat)]) ?_
        exact key45 85 84 (by omega) (by omega)
      · skip
        refine j_aload_n 0 21 dX8_moves_20 rfl rfl ?_
        refine j_iconst 22 dX8_moves_21 rfl ?_
        refine j_aload_n 0 23 dX8_moves_22 rfl rfl ?_
        refine j_get 0 0 1 26 in_X8_moves_X8 dX8_moves_23 rfl rfl rfl (by decide) rfl rfl ?_
        refine j_iload_n 1 27 dX8_moves_26 rfl rfl ?_
        refine j_iconst 28 dX8_moves_27 rfl ?_
        refine j_iadd 29 dX8_moves_28 rfl ?_
        refine j_iload_n 3 30 dX8_moves_29 rfl rfl ?_
        refine j_iadd 31 dX8_moves_30 rfl ?_
        refine j_iald 1 32 dX8_moves_31 rfl rfl (by decide) (by omega) ?_
        rw [fb]
        refine j_callVv 0 [0, 1] 35 [_, _] (c_X8_falls E _ _ _ _ _ _ (by omega) (by rw [fc]; omega)) rfl kX8_moves_X8_falls rfl rfl rfl rfl rfl rfl rfl (Nat.le_of_ble_eq_true rfl) (by decide) dX8_moves_32 rfl ?_
        refine j_iinc 3 38 [_, _, _, _] dX8_moves_35 rfl rfl (by decide) rfl ?_
        refine j_goto 15 dX8_moves_38 (by decide) ?_
        refine j_perm [1, 2, 3, 0] rfl ?_
        exact ih (i + 1) (by omega) (by omega)
  refine j_perm [3, 2, 1, 0] rfl ?_
  exact key15 ((f 81).toNat + 1) 0 (by omega) (by omega)
theorem kX8_drops_X8_cupAt : jKs mX8_drops 60 yX8_cupAt wsX8_cupAt rmX8_cupAt 1 := ⟨gX8_drops_X8_cupAt, ⟨_, _, _, _, rfl, by decide⟩, by decide +kernel, rfl, rfl, by decide⟩
set_option maxRecDepth 20000 in
theorem in_X8_drops_X8 : ∀ x ∈ u_ws RX8 TX8 11, x ∈ wsX8_drops := by decide +kernel
theorem kX8_drops_X8_falls : jKv mX8_drops 72 yX8_falls wsX8_falls rmX8_falls 2 := ⟨gX8_drops_X8_falls, ⟨_, _, _, _, rfl, by decide⟩, by decide +kernel, rfl, rfl, by decide⟩
theorem kX8_drops_X8_bruiseOf : jKs mX8_drops 40 yX8_bruiseOf wsX8_bruiseOf rmX8_bruiseOf 1 := ⟨gX8_drops_X8_bruiseOf, ⟨_, _, _, _, rfl, by decide⟩, by decide +kernel, rfl, rfl, by decide⟩
set_option maxRecDepth 100000 in
set_option maxHeartbeats 4000000 in
theorem c_X8_drops (E : jE) (o a : Nat) (fs : List Value) (f : Int → Int) (l : Int) (hl : 0 ≤ l ∧ l < 4) (h3 : 0 ≤ f 3 ∧ f 3 ≤ 15) (h2 : 1 ≤ f 2 ∧ f 2 ≤ 20) (hn : 0 ≤ f (85 + l) ∧ f (85 + l) ≤ 20) (hg : -1000 ≤ f (37 + 4 * (2 + 2 * l) + 3) ∧ f (37 + 4 * (2 + 2 * l) + 3) ≤ 1000) (ha : f (37 + 4 * (2 + 2 * l) + 3) = l + 1 → 0 ≤ f (37 + 4 * (2 + 2 * l) + 1) ∧ f (37 + 4 * (2 + 2 * l) + 1) < 404000) : jMI E yX8_drops wsX8_drops rmX8_drops [.ref o, .int (jI l)] (wMs E o a fs f) (if f (37 + 4 * (2 + 2 * l) + 3) = l + 1 then (if f 2 ≤ f (85 + l) then 0 else 1) else 0) (wMs E o a fs (fDr f l (f 3 / 2 ^ l.toNat % 2))) := by
  refine jMI_of (cc := cX8_drops) (maxL := 6) (ret := (some .int)) [(0, .ref o), (1, .int (jI l))] (by decide) rfl rfl (Nat.le_of_ble_eq_true rfl) (fun C => ?_)
  show jG mX8_drops E C (jQi E C (if f (37 + 4 * (2 + 2 * l) + 3) = l + 1 then (if f 2 ≤ f (85 + l) then 0 else 1) else 0) (wMs E o a fs (fDr f l (f 3 / 2 ^ l.toNat % 2)))) 0 0 0 [(0, .ref o), (1, .int (jI l))] [] (wMs E o a fs f)
  have gw : f 3 / 2 ^ l.toNat % 2 = 0 ∨ f 3 / 2 ^ l.toNat % 2 = 1 := by omega
  have gb := tB_rng (f (37 + 4 * (2 + 2 * l) + 1))
  refine j_iconst 1 dX8_drops_0 rfl ?_
  refine j_iconst 2 dX8_drops_1 rfl ?_
  refine j_iload_n 1 3 dX8_drops_2 rfl rfl ?_
  refine j_imul 4 dX8_drops_3 rfl ?_
  refine j_iadd 5 dX8_drops_4 rfl ?_
  refine j_callSi [] 8 [_, _] (c_X8_cupAt E _ ) rfl kX8_drops_X8_cupAt rfl rfl rfl rfl rfl (Nat.le_of_ble_eq_true rfl) (by decide) dX8_drops_5 rfl ?_
  refine j_istore_n 9 [_, _, _] dX8_drops_8 rfl (by decide) rfl ?_
  refine j_aload_n 1 10 dX8_drops_9 rfl rfl ?_
  refine j_get 0 0 1 13 in_X8_drops_X8 dX8_drops_10 rfl rfl rfl (by decide) rfl rfl ?_
  refine j_iload_n 0 14 dX8_drops_13 rfl rfl ?_
  refine j_iconst 15 dX8_drops_14 rfl ?_
  refine j_iadd 16 dX8_drops_15 rfl ?_
  refine j_iald 1 17 dX8_drops_16 rfl rfl (by decide) (by omega) ?_
  refine j_iload_n 2 18 dX8_drops_17 rfl rfl ?_
  refine j_iconst 19 dX8_drops_18 rfl ?_
  refine j_iadd 20 dX8_drops_19 rfl ?_
  refine j_icmp_eq 25 23 dX8_drops_20 rfl (by decide) (by omega) (by omega) (fun h_20 => ?_) (fun h_20 => ?_)
  · skip
    refine j_aload_n 1 26 dX8_drops_25 rfl rfl ?_
    refine j_get 0 0 1 29 in_X8_drops_X8 dX8_drops_26 rfl rfl rfl (by decide) rfl rfl ?_
    refine j_bipush 31 dX8_drops_29 rfl (by decide) ?_
    refine j_iload_n 2 32 dX8_drops_31 rfl rfl ?_
    refine j_iadd 33 dX8_drops_32 rfl ?_
    refine j_iald 1 34 dX8_drops_33 rfl rfl (by decide) (by omega) ?_
    refine j_aload_n 1 35 dX8_drops_34 rfl rfl ?_
    refine j_get 0 0 1 38 in_X8_drops_X8 dX8_drops_35 rfl rfl rfl (by decide) rfl rfl ?_
    refine j_iconst 39 dX8_drops_38 rfl ?_
    refine j_iald 1 40 dX8_drops_39 rfl rfl (by decide) (by omega) ?_
    refine j_icmp_lt 66 43 dX8_drops_40 rfl (by decide) (by omega) (by omega) (fun h_40 => ?_) (fun h_40 => ?_)
    · skip
      rw [if_pos h_20, if_neg (by omega)]
      have ha2 := ha h_20
      refine j_aload_n 1 67 dX8_drops_66 rfl rfl ?_
      refine j_get 0 0 1 70 in_X8_drops_X8 dX8_drops_67 rfl rfl rfl (by decide) rfl rfl ?_
      refine j_iload_n 0 71 dX8_drops_70 rfl rfl ?_
      refine j_iconst 72 dX8_drops_71 rfl ?_
      refine j_iadd 73 dX8_drops_72 rfl ?_
      refine j_iald 1 74 dX8_drops_73 rfl rfl (by decide) (by omega) ?_
      refine j_istore_n 75 [_, _, _, _] dX8_drops_74 rfl (by decide) rfl ?_
      refine j_aload_n 2 76 dX8_drops_75 rfl rfl ?_
      refine j_get 0 0 1 79 in_X8_drops_X8 dX8_drops_76 rfl rfl rfl (by decide) rfl rfl ?_
      refine j_iconst 80 dX8_drops_79 rfl ?_
      refine j_iald 1 81 dX8_drops_80 rfl rfl (by decide) (by omega) ?_
      refine j_iload_n 3 82 dX8_drops_81 rfl rfl ?_
      refine j_ishr_and 83 84 85 dX8_drops_82 dX8_drops_83 dX8_drops_84 rfl rfl rfl h3 hl ?_
      refine j_if_ne 101 88 dX8_drops_85 rfl (by decide) (by omega) (fun h_85 => ?_) (fun h_85 => ?_)
      · skip
        have e : fDr f l (f 3 / 2 ^ l.toNat % 2) = fZ (fFalls (jU f 174 (f 174 + 0)) l (f (37 + 4 * (2 + 2 * l) + 1))) (37 + 4 * (2 + 2 * l)) 4 := by unfold fDr; rw [if_pos h_20, if_neg (by omega), if_neg (by omega)]
        rw [e]
        refine j_iconst 102 dX8_drops_101 rfl ?_
        refine j_istore 104 [_, _, _, _, _] dX8_drops_102 rfl (by decide) rfl ?_
        refine j_aload_n 3 105 dX8_drops_104 rfl rfl ?_
        refine j_get 0 0 1 108 in_X8_drops_X8 dX8_drops_105 rfl rfl rfl (by decide) rfl rfl ?_
        refine j_sipush 111 dX8_drops_108 rfl (by decide) ?_
        refine j_dup2 112 dX8_drops_111 rfl rfl rfl ?_
        refine j_iald 1 113 dX8_drops_112 rfl rfl (by decide) (by omega) ?_
        refine j_iload 0 115 dX8_drops_113 rfl rfl ?_
        refine j_if_eq 122 118 dX8_drops_115 rfl (by decide) (by decide) (fun _ => ?_) (fun h => absurd h (by decide))
        refine j_iconst 123 dX8_drops_122 rfl ?_
        refine j_iadd 124 dX8_drops_123 rfl ?_
        refine j_iast 1 125 [_, _] dX8_drops_124 rfl rfl (by decide) (by omega) rfl ?_
        refine j_aload_n 3 126 dX8_drops_125 rfl rfl ?_
        refine j_iload_n 4 127 dX8_drops_126 rfl rfl ?_
        refine j_iload 0 129 dX8_drops_127 rfl rfl ?_
        refine j_if_eq 138 132 dX8_drops_129 rfl (by decide) (by decide) (fun _ => ?_) (fun h => absurd h (by decide))
        refine j_iload_n 1 139 dX8_drops_138 rfl rfl ?_
        refine j_callVv 0 [0, 1] 142 [_, _] (c_X8_falls E _ _ _ _ _ _ (by omega) (by rw [jU_ne (by omega)]; omega)) rfl kX8_drops_X8_falls rfl rfl rfl rfl rfl rfl rfl (Nat.le_of_ble_eq_true rfl) (by decide) dX8_drops_139 rfl ?_
        generalize hG : fFalls _ l _ = g
        refine j_iconst 143 dX8_drops_142 rfl ?_
        refine j_istore 145 [_, _, _, _, _, _] dX8_drops_143 rfl (by decide) rfl ?_
        have key145 : ∀ (fu : Nat) (i : Int), 4 < i + fu → 0 ≤ i ∧ i ≤ 4 → jG mX8_drops E C (jQi E C (1) (wMs E o a fs (fZ g (37 + 4 * (2 + 2 * l)) 4))) 0 0 145 [(0, .ref o), (1, .int (jI l)), (2, .int (jI (37 + 4 * (2 + 2 * l)))), (5, .int (jI i))] [] (wMs E o a fs (fZ g (37 + 4 * (2 + 2 * l)) i)) := by
          intro fu
          induction fu with
          | zero => intro i h1 h2; exact absurd h1 (by omega)
          | succ fu ih =>
            intro i h1 h2
            refine j_iload 3 147 dX8_drops_145 rfl rfl ?_
            refine j_iconst 148 dX8_drops_147 rfl ?_
            refine j_icmp_ge 167 151 dX8_drops_148 rfl (by decide) (by omega) (by omega) (fun h_148 => ?_) (fun h_148 => ?_)
            · skip
              obtain rfl : i = 4 := by omega
              refine j_iconst 168 dX8_drops_167 rfl ?_
              exact j_iret dX8_drops_168 rfl (by rfl) (by rfl)
            · skip
              refine j_aload_n 0 152 dX8_drops_151 rfl rfl ?_
              refine j_get 0 0 1 155 in_X8_drops_X8 dX8_drops_152 rfl rfl rfl (by decide) rfl rfl ?_
              refine j_iload_n 2 156 dX8_drops_155 rfl rfl ?_
              refine j_iload 3 158 dX8_drops_156 rfl rfl ?_
              refine j_iadd 159 dX8_drops_158 rfl ?_
              refine j_iconst 160 dX8_drops_159 rfl ?_
              refine j_iast 1 161 [_, _] dX8_drops_160 rfl rfl (by decide) (by omega) rfl ?_
              refine j_iinc 3 164 [_, _, _, _] dX8_drops_161 rfl rfl (by decide) rfl ?_
              refine j_goto 145 dX8_drops_164 (by decide) ?_
              refine j_perm [1, 2, 3, 0] rfl ?_
              rw [fZ_step (by omega)]
              exact ih (i + 1) (by omega) (by omega)
        refine j_perm [4, 5, 3, 0] rfl ?_
        refine j_eqw (w' := wMs E o a fs (fZ g (37 + 4 * (2 + 2 * l)) 0)) (by rw [fZ_0]) ?_
        exact key145 5 0 (by omega) (by omega)
      · skip
        refine j_iload_n 0 89 dX8_drops_88 rfl rfl ?_
        refine j_callSi [] 92 [_, _] (c_X8_bruiseOf E _ (by omega)) rfl kX8_drops_X8_bruiseOf rfl rfl rfl rfl rfl (Nat.le_of_ble_eq_true rfl) (by decide) dX8_drops_89 rfl ?_
        refine j_bipush 94 dX8_drops_92 rfl (by decide) ?_
        refine j_icmp_ge 101 97 dX8_drops_94 rfl (by decide) (by omega) (by omega) (fun h_94 => ?_) (fun h_94 => ?_)
        · skip
          have e : fDr f l (f 3 / 2 ^ l.toNat % 2) = fZ (fFalls (jU f 174 (f 174 + 0)) l (f (37 + 4 * (2 + 2 * l) + 1))) (37 + 4 * (2 + 2 * l)) 4 := by unfold fDr; rw [if_pos h_20, if_neg (by omega), if_neg (by omega)]
          rw [e]
          refine j_iconst 102 dX8_drops_101 rfl ?_
          refine j_istore 104 [_, _, _, _, _] dX8_drops_102 rfl (by decide) rfl ?_
          refine j_aload_n 3 105 dX8_drops_104 rfl rfl ?_
          refine j_get 0 0 1 108 in_X8_drops_X8 dX8_drops_105 rfl rfl rfl (by decide) rfl rfl ?_
          refine j_sipush 111 dX8_drops_108 rfl (by decide) ?_
          refine j_dup2 112 dX8_drops_111 rfl rfl rfl ?_
          refine j_iald 1 113 dX8_drops_112 rfl rfl (by decide) (by omega) ?_
          refine j_iload 0 115 dX8_drops_113 rfl rfl ?_
          refine j_if_eq 122 118 dX8_drops_115 rfl (by decide) (by decide) (fun _ => ?_) (fun h => absurd h (by decide))
          refine j_iconst 123 dX8_drops_122 rfl ?_
          refine j_iadd 124 dX8_drops_123 rfl ?_
          refine j_iast 1 125 [_, _] dX8_drops_124 rfl rfl (by decide) (by omega) rfl ?_
          refine j_aload_n 3 126 dX8_drops_125 rfl rfl ?_
          refine j_iload_n 4 127 dX8_drops_126 rfl rfl ?_
          refine j_iload 0 129 dX8_drops_127 rfl rfl ?_
          refine j_if_eq 138 132 dX8_drops_129 rfl (by decide) (by decide) (fun _ => ?_) (fun h => absurd h (by decide))
          refine j_iload_n 1 139 dX8_drops_138 rfl rfl ?_
          refine j_callVv 0 [0, 1] 142 [_, _] (c_X8_falls E _ _ _ _ _ _ (by omega) (by rw [jU_ne (by omega)]; omega)) rfl kX8_drops_X8_falls rfl rfl rfl rfl rfl rfl rfl (Nat.le_of_ble_eq_true rfl) (by decide) dX8_drops_139 rfl ?_
          generalize hG : fFalls _ l _ = g
          refine j_iconst 143 dX8_drops_142 rfl ?_
          refine j_istore 145 [_, _, _, _, _, _] dX8_drops_143 rfl (by decide) rfl ?_
          have key145 : ∀ (fu : Nat) (i : Int), 4 < i + fu → 0 ≤ i ∧ i ≤ 4 → jG mX8_drops E C (jQi E C (1) (wMs E o a fs (fZ g (37 + 4 * (2 + 2 * l)) 4))) 0 0 145 [(0, .ref o), (1, .int (jI l)), (2, .int (jI (37 + 4 * (2 + 2 * l)))), (5, .int (jI i))] [] (wMs E o a fs (fZ g (37 + 4 * (2 + 2 * l)) i)) := by
            intro fu
            induction fu with
            | zero => intro i h1 h2; exact absurd h1 (by omega)
            | succ fu ih =>
              intro i h1 h2
              refine j_iload 3 147 dX8_drops_145 rfl rfl ?_
              refine j_iconst 148 dX8_drops_147 rfl ?_
              refine j_icmp_ge 167 151 dX8_drops_148 rfl (by decide) (by omega) (by omega) (fun h_148 => ?_) (fun h_148 => ?_)
              · skip
                obtain rfl : i = 4 := by omega
                refine j_iconst 168 dX8_drops_167 rfl ?_
                exact j_iret dX8_drops_168 rfl (by rfl) (by rfl)
              · skip
                refine j_aload_n 0 152 dX8_drops_151 rfl rfl ?_
                refine j_get 0 0 1 155 in_X8_drops_X8 dX8_drops_152 rfl rfl rfl (by decide) rfl rfl ?_
                refine j_iload_n 2 156 dX8_drops_155 rfl rfl ?_
                refine j_iload 3 158 dX8_drops_156 rfl rfl ?_
                refine j_iadd 159 dX8_drops_158 rfl ?_
                refine j_iconst 160 dX8_drops_159 rfl ?_
                refine j_iast 1 161 [_, _] dX8_drops_160 rfl rfl (by decide) (by omega) rfl ?_
                refine j_iinc 3 164 [_, _, _, _] dX8_drops_161 rfl rfl (by decide) rfl ?_
                refine j_goto 145 dX8_drops_164 (by decide) ?_
                refine j_perm [1, 2, 3, 0] rfl ?_
                rw [fZ_step (by omega)]
                exact ih (i + 1) (by omega) (by omega)
          refine j_perm [4, 5, 3, 0] rfl ?_
          refine j_eqw (w' := wMs E o a fs (fZ g (37 + 4 * (2 + 2 * l)) 0)) (by rw [fZ_0]) ?_
          exact key145 5 0 (by omega) (by omega)
        · skip
          have e : fDr f l (f 3 / 2 ^ l.toNat % 2) = fZ (fFalls (jU f 174 (f 174 + 1)) l (f (37 + 4 * (2 + 2 * l) + 1) + 1)) (37 + 4 * (2 + 2 * l)) 4 := by unfold fDr; rw [if_pos h_20, if_neg (by omega), if_pos (by omega)]
          rw [e]
          refine j_iconst 98 dX8_drops_97 rfl ?_
          refine j_goto 102 dX8_drops_98 (by decide) ?_
          refine j_istore 104 [_, _, _, _, _] dX8_drops_102 rfl (by decide) rfl ?_
          refine j_aload_n 3 105 dX8_drops_104 rfl rfl ?_
          refine j_get 0 0 1 108 in_X8_drops_X8 dX8_drops_105 rfl rfl rfl (by decide) rfl rfl ?_
          refine j_sipush 111 dX8_drops_108 rfl (by decide) ?_
          refine j_dup2 112 dX8_drops_111 rfl rfl rfl ?_
          refine j_iald 1 113 dX8_drops_112 rfl rfl (by decide) (by omega) ?_
          refine j_iload 0 115 dX8_drops_113 rfl rfl ?_
          refine j_if_eq 122 118 dX8_drops_115 rfl (by decide) (by decide) (fun h => absurd h (by decide)) (fun _ => ?_)
          refine j_iconst 119 dX8_drops_118 rfl ?_
          refine j_goto 123 dX8_drops_119 (by decide) ?_
          refine j_iadd 124 dX8_drops_123 rfl ?_
          refine j_iast 1 125 [_, _] dX8_drops_124 rfl rfl (by decide) (by omega) rfl ?_
          refine j_aload_n 3 126 dX8_drops_125 rfl rfl ?_
          refine j_iload_n 4 127 dX8_drops_126 rfl rfl ?_
          refine j_iload 0 129 dX8_drops_127 rfl rfl ?_
          refine j_if_eq 138 132 dX8_drops_129 rfl (by decide) (by decide) (fun h => absurd h (by decide)) (fun _ => ?_)
          refine j_iload_n 1 133 dX8_drops_132 rfl rfl ?_
          refine j_iconst 134 dX8_drops_133 rfl ?_
          refine j_iadd 135 dX8_drops_134 rfl ?_
          refine j_goto 139 dX8_drops_135 (by decide) ?_
          refine j_callVv 0 [0, 1] 142 [_, _] (c_X8_falls E _ _ _ _ _ _ (by omega) (by rw [jU_ne (by omega)]; omega)) rfl kX8_drops_X8_falls rfl rfl rfl rfl rfl rfl rfl (Nat.le_of_ble_eq_true rfl) (by decide) dX8_drops_139 rfl ?_
          generalize hG : fFalls _ l _ = g
          refine j_iconst 143 dX8_drops_142 rfl ?_
          refine j_istore 145 [_, _, _, _, _, _] dX8_drops_143 rfl (by decide) rfl ?_
          have key145 : ∀ (fu : Nat) (i : Int), 4 < i + fu → 0 ≤ i ∧ i ≤ 4 → jG mX8_drops E C (jQi E C (1) (wMs E o a fs (fZ g (37 + 4 * (2 + 2 * l)) 4))) 0 0 145 [(0, .ref o), (1, .int (jI l)), (2, .int (jI (37 + 4 * (2 + 2 * l)))), (5, .int (jI i))] [] (wMs E o a fs (fZ g (37 + 4 * (2 + 2 * l)) i)) := by
            intro fu
            induction fu with
            | zero => intro i h1 h2; exact absurd h1 (by omega)
            | succ fu ih =>
              intro i h1 h2
              refine j_iload 3 147 dX8_drops_145 rfl rfl ?_
              refine j_iconst 148 dX8_drops_147 rfl ?_
              refine j_icmp_ge 167 151 dX8_drops_148 rfl (by decide) (by omega) (by omega) (fun h_148 => ?_) (fun h_148 => ?_)
              · skip
                obtain rfl : i = 4 := by omega
                refine j_iconst 168 dX8_drops_167 rfl ?_
                exact j_iret dX8_drops_168 rfl (by rfl) (by rfl)
              · skip
                refine j_aload_n 0 152 dX8_drops_151 rfl rfl ?_
                refine j_get 0 0 1 155 in_X8_drops_X8 dX8_drops_152 rfl rfl rfl (by decide) rfl rfl ?_
                refine j_iload_n 2 156 dX8_drops_155 rfl rfl ?_
                refine j_iload 3 158 dX8_drops_156 rfl rfl ?_
                refine j_iadd 159 dX8_drops_158 rfl ?_
                refine j_iconst 160 dX8_drops_159 rfl ?_
                refine j_iast 1 161 [_, _] dX8_drops_160 rfl rfl (by decide) (by omega) rfl ?_
                refine j_iinc 3 164 [_, _, _, _] dX8_drops_161 rfl rfl (by decide) rfl ?_
                refine j_goto 145 dX8_drops_164 (by decide) ?_
                refine j_perm [1, 2, 3, 0] rfl ?_
                rw [fZ_step (by omega)]
                exact ih (i + 1) (by omega) (by omega)
          refine j_perm [4, 5, 3, 0] rfl ?_
          refine j_eqw (w' := wMs E o a fs (fZ g (37 + 4 * (2 + 2 * l)) 0)) (by rw [fZ_0]) ?_
          exact key145 5 0 (by omega) (by omega)
    · skip
      have e : fDr f l (f 3 / 2 ^ l.toNat % 2) = jU (jU f (37 + 4 * (2 + 2 * l) + 3) 5) 172 (f 172 + 1) := by unfold fDr; rw [if_pos h_20, if_pos (by omega)]
      rw [e, if_pos h_20, if_pos (by omega)]
      have e172 : jU f (37 + 4 * (2 + 2 * l) + 3) 5 172 = f 172 := jU_ne (by omega)
      refine j_aload_n 1 44 dX8_drops_43 rfl rfl ?_
      refine j_get 0 0 1 47 in_X8_drops_X8 dX8_drops_44 rfl rfl rfl (by decide) rfl rfl ?_
      refine j_iload_n 0 48 dX8_drops_47 rfl rfl ?_
      refine j_iconst 49 dX8_drops_48 rfl ?_
      refine j_iadd 50 dX8_drops_49 rfl ?_
      refine j_iconst 51 dX8_drops_50 rfl ?_
      refine j_iast 1 52 [_, _] dX8_drops_51 rfl rfl (by decide) (by omega) rfl ?_
      refine j_aload_n 1 53 dX8_drops_52 rfl rfl ?_
      refine j_get 0 0 1 56 in_X8_drops_X8 dX8_drops_53 rfl rfl rfl (by decide) rfl rfl ?_
      refine j_sipush 59 dX8_drops_56 rfl (by decide) ?_
      refine j_dup2 60 dX8_drops_59 rfl rfl rfl ?_
      refine j_iald 1 61 dX8_drops_60 rfl rfl (by decide) (by omega) ?_
      refine j_iconst 62 dX8_drops_61 rfl ?_
      refine j_iadd 63 dX8_drops_62 rfl ?_
      rw [e172]
      refine j_iast 1 64 [_, _] dX8_drops_63 rfl rfl (by decide) (by omega) rfl ?_
      refine j_iconst 65 dX8_drops_64 rfl ?_
      exact j_iret dX8_drops_65 rfl (by rfl) (by rfl)
  · skip
    have e : fDr f l (f 3 / 2 ^ l.toNat % 2) = f := if_neg (by omega)
    rw [e, if_neg (by omega)]
    refine j_iconst 24 dX8_drops_23 rfl ?_
    exact j_iret dX8_drops_24 rfl (by rfl) (by rfl)
