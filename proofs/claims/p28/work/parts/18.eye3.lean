/-! the class: what it tells -/
def mCup (x : Nat → Int → Int) (p w : Int) : Int := if p < 0 ∨ 12 ≤ p ∨ w < 0 ∨ 3 < w then -1 else if w = 0 then x 2 p else if w = 1 then (if x 3 p = -1 then -4 else x 3 p) else if w = 2 then jSum (fun i => tW (x 4 (2 * p + i))) (x 2 p).toNat else sTtf x p
def mApple (x : Nat → Int → Int) (l i w : Int) : Int := if l < 0 ∨ 4 < l ∨ i < 0 ∨ w < 0 ∨ 3 < w then -1 else if x 5 l ≤ i then -4 else if w = 0 then tW (x 6 (l * 20 + i)) else if w = 1 then tR (x 6 (l * 20 + i)) else if w = 2 then tB (x 6 (l * 20 + i)) else sWr x l (x 6 (l * 20 + i))
def mBox (x : Nat → Int → Int) (l w : Int) : Int := if l < 0 ∨ 4 < l ∨ w < 0 ∨ 5 < w then -1 else if w = 0 then x 5 l else if w = 1 then jSum (fun i => tW (x 6 (l * 20 + i))) (x 5 l).toNat else if w = 2 then sWi x l else if w = 3 then lrU (x 6) (l * 20) (x 5 l).toNat else if w = 4 then gbU (x 6) (l * 20) (x 5 l).toNat else if l = 4 ∨ ¬ x 8 l = 0 then 1 else 0
def mRuleOf (x : Nat → Int → Int) (r w : Int) : Int := if r < 0 ∨ x 9 0 ≤ r ∨ w < 0 ∨ 4 < w then -1 else if w = 0 then tW (x 0 r) else if w = 1 then tR (x 0 r) else if w = 2 then tB (x 0 r) else if w = 3 then x 1 r else hidF (x 0) (x 0 r) r.toNat 0
def mLane (x : Nat → Int → Int) (a r b w : Int) : Int := if tIn a r b = 0 ∨ (¬ w = 0 ∧ ¬ w = 1) then -1 else sLn x (sSee x (tOf a r b))
def mMisses (x : Nat → Int → Int) (k a r b : Int) : Int := if k < 0 ∨ x 9 0 ≤ k ∨ tIn a r b = 0 then -1 else tShort (x 0 k) (sSee x (tOf a r b))
def mCount (x : Nat → Int → Int) (v : Int → Int) (w : Int) : Int := if w = 0 then x 9 0 else if w = 1 then x 9 1 else if w = 2 then jSum (x 2) 12 else if w = 3 then jSum (fun i => if x 2 i = 2 then 1 else 0) 12 else if w = 4 then jSum (x 5) 5 else if w = 5 then sWa x else if w = 6 then x 9 2 else if w = 7 then x 9 3 else if w = 8 then x 9 4 else if w = 9 then x 9 5 else if w = 10 then x 9 6 else if w = 11 then x 7 0 + 20 else if w = 12 then x 7 1 else if w = 13 then x 7 2 else if w = 14 then v 3 else if w = 15 then v 2 else -1
def sFirst (x : Nat → Int → Int) (o : Int) : Nat → Int
  | 0 => -4
  | n + 1 => if sFirst x o n = -4 ∧ ¬ (sPass x (n + 1)).1 9 3 = o then (n : Int) + 1 else sFirst x o n
theorem sFirst_rng (x : Nat → Int → Int) (o : Int) (n : Nat) : -4 ≤ sFirst x o n ∧ sFirst x o n ≤ n := by
  induction n with
  | zero => unfold sFirst; omega
  | succ n ih => unfold sFirst; split <;> omega
def mIf (S H : Nat → Nat → Int → Int) (P : Nat → Int → Int) (v : Int → Int) (t w : Int) : Int × cSt := if t < 1 ∨ 30 < t ∨ w < 0 ∨ 3 < w then (-1, S, H, P, v) else (if w = 0 then (sPass (sCp (S 0) (S 2)) t.toNat).2 else if w = 1 then (sPass (sCp (S 0) (S 2)) t.toNat).1 9 3 - S 0 9 3 else if w = 2 then sWa (sPass (sCp (S 0) (S 2)) t.toNat).1 else sFirst (sCp (S 0) (S 2)) (S 0 9 3) t.toNat, cU S 2 (sPass (sCp (S 0) (S 2)) t.toNat).1, H, P, v)
/-- the state with the rule r's least red as given -/
def tgX (x : Nat → Int → Int) (r a : Int) : Nat → Int → Int := jS x 0 (jU (x 0) r (tOf (tW (x 0 r)) a (tB (x 0 r))))
def tgF (x : Nat → Int → Int) (r e : Int) : Nat → Int
  | 0 => -4
  | n + 1 => if e ≤ sSng (tgX x r n) (x 1 r) then n else tgF x r e n
def mTight (S H : Nat → Nat → Int → Int) (P : Nat → Int → Int) (v : Int → Int) (r e : Int) : Int × cSt := if r < 0 ∨ S 0 9 0 ≤ r ∨ e < 1 ∨ 20 < e then (-1, S, H, P, v) else (tgF (sCp (S 0) (S 2)) r e 101, cU S 2 (tgX (sCp (S 0) (S 2)) r (if tgF (sCp (S 0) (S 2)) r e 101 = -4 then 0 else tgF (sCp (S 0) (S 2)) r e 101)), H, P, v)
theorem jU_jU (g : Int → Int) (i a b : Int) : jU (jU g i a) i b = jU g i b := by
  funext j
  unfold jU
  by_cases h : j = i
  · rw [if_pos h, if_pos h]
  · rw [if_neg h, if_neg h, if_neg h]
theorem sOK_tg {x : Nat → Int → Int} {r a : Int} (hx : sOK x) (ha : 0 ≤ a ∧ a ≤ 100) : sOK (tgX x r a) := by
  have h0 : ∀ i, 0 ≤ x 0 i ∧ x 0 i < 404000 := hx 0
  have h0r := h0 r
  refine sOK_S hx (jU_all (P := fun z => 0 ≤ z ∧ z < 404000) (hx 0) ?_)
  have h1 := tB_rng (x 0 r)
  have h3 : 0 ≤ tW (x 0 r) ∧ tW (x 0 r) ≤ 399 := by unfold tW; omega
  unfold tOf
  omega
theorem tgF_rng (x : Nat → Int → Int) (r e : Int) (n : Nat) : tgF x r e n = -4 ∨ (0 ≤ tgF x r e n ∧ tgF x r e n < n) := by
  induction n with
  | zero => exact Or.inl rfl
  | succ n ih => unfold tgF; split <;> omega
theorem sSng_rng (x : Nat → Int → Int) (l : Int) : 0 ≤ sSng x l ∧ sSng x l ≤ 12 := by
  unfold sSng
  exact jSum_01 (fun i => by split <;> omega) 12
theorem sGrade_93 (x : Nat → Int → Int) : sGrade x 9 3 = x 9 3 := by
  unfold sGrade
  split
  · rfl
  · rw [jS_at]
    split
    · rw [jU_ne (by omega)]
    · rfl
theorem sOver_tick (x : Nat → Int → Int) : x 9 3 ≤ sTick x 9 3 ∧ sTick x 9 3 ≤ x 9 3 + 4 := by
  have h3 : sT3 x 9 3 = x 9 3 := by
    unfold sT3 sMove
    rw [jS_ne (by omega), jS_ne (by omega), jS_ne (by omega), sFo_ne _ (by omega) (by omega), sGrade_93]
    show jU (x 9) 1 (x 9 1 + 1) 3 = x 9 3
    rw [jU_ne (by omega)]
  have key : ∀ n : Nat, sT3 x 9 3 ≤ (sDs (sT3 x) n).1 9 3 ∧ (sDs (sT3 x) n).1 9 3 ≤ sT3 x 9 3 + n := by
    intro n
    induction n with
    | zero => show sT3 x 9 3 ≤ sT3 x 9 3 ∧ sT3 x 9 3 ≤ sT3 x 9 3 + ((0 : Nat) : Int); omega
    | succ n ih =>
      have step : (sDs (sT3 x) n).1 9 3 ≤ sDrX (sDs (sT3 x) n).1 n 9 3 ∧ sDrX (sDs (sT3 x) n).1 n 9 3 ≤ (sDs (sT3 x) n).1 9 3 + 1 := by
        unfold sDrX
        split
        · split
          · show _ ≤ jU ((sDs (sT3 x) n).1 9) 3 ((sDs (sT3 x) n).1 9 3 + 1) 3 ∧ jU ((sDs (sT3 x) n).1 9) 3 ((sDs (sT3 x) n).1 9 3 + 1) 3 ≤ _
            rw [jU_at]; omega
          · split
            · show _ ≤ jU ((sDs (sT3 x) n).1 9) 5 ((sDs (sT3 x) n).1 9 5 + 1) 3 ∧ jU ((sDs (sT3 x) n).1 9) 5 ((sDs (sT3 x) n).1 9 5 + 1) 3 ≤ _
              rw [jU_ne (by omega)]; omega
            · show (sDs (sT3 x) n).1 9 3 ≤ (sDs (sT3 x) n).1 9 3 ∧ (sDs (sT3 x) n).1 9 3 ≤ (sDs (sT3 x) n).1 9 3 + 1
              omega
        · omega
      show sT3 x 9 3 ≤ sDrX (sDs (sT3 x) n).1 n 9 3 ∧ sDrX (sDs (sT3 x) n).1 n 9 3 ≤ sT3 x 9 3 + ((n + 1 : Nat) : Int)
      omega
  have := key 4
  show x 9 3 ≤ (sDs (sT3 x) 4).1 9 3 ∧ (sDs (sT3 x) 4).1 9 3 ≤ x 9 3 + 4
  omega
theorem sOver_pass (x : Nat → Int → Int) (h : 0 ≤ x 9 3) (n : Nat) : 0 ≤ (sPass x n).1 9 3 ∧ (sPass x n).1 9 3 ≤ x 9 3 + 4 * n := by
  induction n with
  | zero => show 0 ≤ x 9 3 ∧ x 9 3 ≤ x 9 3 + 4 * ((0 : Nat) : Int); omega
  | succ n ih =>
    have := sOver_tick (sPass x n).1
    show 0 ≤ sTick (sPass x n).1 9 3 ∧ sTick (sPass x n).1 9 3 ≤ x 9 3 + 4 * ((n + 1 : Nat) : Int)
    omega
set_option maxRecDepth 20000 in
theorem in_X7_cup_X7 : ∀ x ∈ u_ws RX7 TX7 6, x ∈ wsX7_cup := by decide +kernel
set_option maxRecDepth 20000 in
theorem in_X7_cup_X5 : ∀ x ∈ u_ws RX5 TX5 11, x ∈ wsX7_cup := by decide +kernel
set_option maxRecDepth 20000 in
theorem in_X7_cup_X0 : ∀ x ∈ u_ws RX0 TX0 3, x ∈ wsX7_cup := by decide +kernel
theorem kX7_cup_X0_weightIn : jKv mX7_cup 147 yX0_weightIn wsX0_weightIn rmX0_weightIn 1 := ⟨gX7_cup_X0_weightIn, ⟨_, _, _, _, rfl, by decide⟩, by decide +kernel, rfl, rfl, by decide⟩
theorem kX7_cup_X5_ticksToFall : jKv mX7_cup 150 yX5_ticksToFall wsX5_ticksToFall rmX5_ticksToFall 1 := ⟨gX7_cup_X5_ticksToFall, ⟨_, _, _, _, rfl, by decide⟩, by decide +kernel, rfl, rfl, by decide⟩
set_option maxRecDepth 100000 in
set_option maxHeartbeats 4000000 in
theorem c_X7_cup (E : jE) (ad qh : Nat → Nat → Nat) (S H : Nat → Nat → Int → Int) (P : Nat → Int → Int) (v : Int → Int) (p w : Int) (hc0 : cOK S H P v) (pb : -2147483648 ≤ p ∧ p < 2147483648) (wb : -2147483648 ≤ w ∧ w < 2147483648) : jMI E yX7_cup wsX7_cup rmX7_cup [.ref (ad 7 0), .int (jI p), .int (jI w)] (wEye E ad qh S H P v) (mCup (S 0) p w) (wEye E ad qh S H P v) := by
  refine jMI_of (cc := cX7_cup) (maxL := 3) (ret := (some .int)) [(0, .ref (ad 7 0)), (1, .int (jI p)), (2, .int (jI w))] (by decide) rfl rfl (Nat.le_of_ble_eq_true rfl) (fun C => ?_)
  show jG mX7_cup E C (jQi E C (mCup (S 0) p w) (wEye E ad qh S H P v)) 0 0 0 [(0, .ref (ad 7 0)), (1, .int (jI p)), (2, .int (jI w))] [] (wEye E ad qh S H P v)
  obtain ⟨okS, okH, rv1, rv2, rv0, rv3, rP0⟩ := hc0
  have hx := okS 0
  have r0 : ∀ i, 0 ≤ S 0 0 i ∧ S 0 0 i < 404000 := hx 0
  have r1 : ∀ i, 0 ≤ S 0 1 i ∧ S 0 1 i ≤ 3 := hx 1
  have r2 : ∀ i, 0 ≤ S 0 2 i ∧ S 0 2 i ≤ 2 := hx 2
  have r3 : ∀ i, -1 ≤ S 0 3 i ∧ S 0 3 i ≤ 4 := hx 3
  have r4 : ∀ i, 0 ≤ S 0 4 i ∧ S 0 4 i < 404000 := hx 4
  have r5 : ∀ i, 0 ≤ S 0 5 i ∧ S 0 5 i ≤ 512 ∧ (i < 4 → S 0 5 i ≤ 20) := hx 5
  have r6 : ∀ i, 0 ≤ S 0 6 i ∧ S 0 6 i < 404000 := hx 6
  have r7 : (-20 ≤ S 0 7 0 ∧ S 0 7 0 ≤ 20) ∧ (0 ≤ S 0 7 1 ∧ S 0 7 1 ≤ 9) ∧ (1 ≤ S 0 7 2 ∧ S 0 7 2 ≤ 20) := hx 7
  have r8 : ∀ i, S 0 8 i = 0 ∨ S 0 8 i = 1 := hx 8
  have r9 : 0 ≤ S 0 9 0 ∧ S 0 9 0 ≤ 8 := hx 9
  have r20 := r2 0
  refine j_iload_n 1 1 dX7_cup_0 rfl rfl ?_
  refine j_if_lt 19 4 dX7_cup_1 rfl (by decide) (by omega) (fun h_1 => ?_) (fun h_1 => ?_)
  · skip
    have e : mCup (S 0) p w = -1 := by unfold mCup; exact if_pos (by omega)
    rw [e]
    refine j_iconst 20 dX7_cup_19 rfl ?_
    exact j_iret dX7_cup_20 rfl (by first | rfl | (exfalso; omega)) (by rfl)
  · skip
    refine j_iload_n 1 5 dX7_cup_4 rfl rfl ?_
    refine j_bipush 7 dX7_cup_5 rfl (by decide) ?_
    refine j_icmp_ge 19 10 dX7_cup_7 rfl (by decide) (by omega) (by omega) (fun h_7 => ?_) (fun h_7 => ?_)
    · skip
      have e : mCup (S 0) p w = -1 := by unfold mCup; exact if_pos (by omega)
      rw [e]
      refine j_iconst 20 dX7_cup_19 rfl ?_
      exact j_iret dX7_cup_20 rfl (by first | rfl | (exfalso; omega)) (by rfl)
    · skip
      refine j_iload_n 2 11 dX7_cup_10 rfl rfl ?_
      refine j_if_lt 19 14 dX7_cup_11 rfl (by decide) (by omega) (fun h_11 => ?_) (fun h_11 => ?_)
      · skip
        have e : mCup (S 0) p w = -1 := by unfold mCup; exact if_pos (by omega)
        rw [e]
        refine j_iconst 20 dX7_cup_19 rfl ?_
        exact j_iret dX7_cup_20 rfl (by first | rfl | (exfalso; omega)) (by rfl)
      · skip
        refine j_iload_n 2 15 dX7_cup_14 rfl rfl ?_
        refine j_iconst 16 dX7_cup_15 rfl ?_
        refine j_icmp_le 21 19 dX7_cup_16 rfl (by decide) (by omega) (by omega) (fun h_16 => ?_) (fun h_16 => ?_)
        · skip
          refine j_iload_n 2 22 dX7_cup_21 rfl rfl ?_
          rcases (show w = 0 ∨ w = 1 ∨ w = 2 ∨ (w < 0 ∨ 2 < w) by omega) with hc | hc | hc | hc
          · skip
            have e : mCup (S 0) p w = S 0 2 p := by unfold mCup; rw [if_neg (by omega), if_pos (by omega)]
            rw [e]
            refine j_tabIn 0 48 hc dX7_cup_22 (by decide) rfl (by decide) ?_
            refine j_aload_n 0 49 dX7_cup_48 rfl rfl ?_
            refine j_getB 0 0 0 1 52 in_X7_cup_X7 dX7_cup_49 rfl rfl rfl rfl (by decide) rfl rfl ?_
            refine j_getB 3 0 1 2 55 in_X7_cup_X5 dX7_cup_52 rfl rfl rfl rfl (by decide) rfl rfl ?_
            refine j_getB 3 4 0 3 58 in_X7_cup_X0 dX7_cup_55 rfl rfl rfl rfl (by decide) rfl rfl ?_
            refine j_iload_n 1 59 dX7_cup_58 rfl rfl ?_
            refine j_ialdB 3 5 60 dX7_cup_59 rfl rfl rfl (by decide) (by omega) ?_
            exact j_iret dX7_cup_60 rfl (by first | rfl | (exfalso; omega)) (by rfl)
          · skip
            have r3p := r3 p
            refine j_tabIn 1 61 hc dX7_cup_22 (by decide) rfl (by decide) ?_
            refine j_aload_n 0 62 dX7_cup_61 rfl rfl ?_
            refine j_getB 0 0 0 1 65 in_X7_cup_X7 dX7_cup_62 rfl rfl rfl rfl (by decide) rfl rfl ?_
            refine j_getB 3 0 1 2 68 in_X7_cup_X5 dX7_cup_65 rfl rfl rfl rfl (by decide) rfl rfl ?_
            refine j_getB 3 4 1 4 71 in_X7_cup_X0 dX7_cup_68 rfl rfl rfl rfl (by decide) rfl rfl ?_
            refine j_iload_n 1 72 dX7_cup_71 rfl rfl ?_
            refine j_ialdB 3 6 73 dX7_cup_72 rfl rfl rfl (by decide) (by omega) ?_
            refine j_iconst 74 dX7_cup_73 rfl ?_
            refine j_icmp_ne 82 77 dX7_cup_74 rfl (by decide) (by omega) (by omega) (fun h_74 => ?_) (fun h_74 => ?_)
            · skip
              have e : mCup (S 0) p w = S 0 3 p := by unfold mCup; rw [if_neg (by omega), if_neg (by omega), if_pos (by omega), if_neg (by omega)]
              rw [e]
              refine j_aload_n 0 83 dX7_cup_82 rfl rfl ?_
              refine j_getB 0 0 0 1 86 in_X7_cup_X7 dX7_cup_83 rfl rfl rfl rfl (by decide) rfl rfl ?_
              refine j_getB 3 0 1 2 89 in_X7_cup_X5 dX7_cup_86 rfl rfl rfl rfl (by decide) rfl rfl ?_
              refine j_getB 3 4 1 4 92 in_X7_cup_X0 dX7_cup_89 rfl rfl rfl rfl (by decide) rfl rfl ?_
              refine j_iload_n 1 93 dX7_cup_92 rfl rfl ?_
              refine j_ialdB 3 6 94 dX7_cup_93 rfl rfl rfl (by decide) (by omega) ?_
              exact j_iret dX7_cup_94 rfl (by first | rfl | (exfalso; omega)) (by rfl)
            · skip
              have e : mCup (S 0) p w = -4 := by unfold mCup; rw [if_neg (by omega), if_neg (by omega), if_pos (by omega), if_pos (by omega)]
              rw [e]
              refine j_bipush 79 dX7_cup_77 rfl (by decide) ?_
              refine j_goto 94 dX7_cup_79 (by decide) ?_
              exact j_iret dX7_cup_94 rfl (by first | rfl | (exfalso; omega)) (by rfl)
          · skip
            have e : mCup (S 0) p w = jSum (fun i => tW (S 0 4 (2 * p + i))) (S 0 2 p).toNat := by unfold mCup; rw [if_neg (by omega), if_neg (by omega), if_neg (by omega), if_pos (by omega)]
            rw [e]
            refine j_tabIn 2 95 hc dX7_cup_22 (by decide) rfl (by decide) ?_
            refine j_aload_n 0 96 dX7_cup_95 rfl rfl ?_
            refine j_getB 0 0 0 1 99 in_X7_cup_X7 dX7_cup_96 rfl rfl rfl rfl (by decide) rfl rfl ?_
            refine j_getB 3 0 1 2 102 in_X7_cup_X5 dX7_cup_99 rfl rfl rfl rfl (by decide) rfl rfl ?_
            refine j_iload_n 1 103 dX7_cup_102 rfl rfl ?_
            refine j_callViP 3 4 [4, 5, 6, 7] 106 [_, _, _, _, _, _, _, _, _, _, _, _, _] [_, _, _, _, _, _, _, _, _, _] (c_X0_weightIn E _ _ _ _ _ _ _ _ (by omega) (by exact r2 p) (by intro i; have := r4 i; omega)) rfl kX7_cup_X0_weightIn rfl rfl rfl rfl rfl rfl rfl rfl rfl (Nat.le_of_ble_eq_true rfl) (by decide) dX7_cup_103 rfl ?_
            exact j_iret dX7_cup_106 rfl (by first | rfl | (exfalso; omega)) (by rfl)
          · skip
            have e : mCup (S 0) p w = sTtf (S 0) p := by unfold mCup; rw [if_neg (by omega), if_neg (by omega), if_neg (by omega), if_neg (by omega)]
            rw [e]
            refine j_tabOut 107 dX7_cup_22 (by omega) hc (by decide) ?_
            refine j_aload_n 0 108 dX7_cup_107 rfl rfl ?_
            refine j_getB 0 0 0 1 111 in_X7_cup_X7 dX7_cup_108 rfl rfl rfl rfl (by decide) rfl rfl ?_
            refine j_iload_n 1 112 dX7_cup_111 rfl rfl ?_
            refine j_callViB (wcs := [_]) (cs := [_]) 3 0 [3] 115 [_, _, _, _, _, _, _, _, _, _] (c_X5_ticksToFall E _ _ _ (by exact hx) (by omega)) rfl rfl rfl kX7_cup_X5_ticksToFall rfl rfl rfl rfl rfl rfl rfl (Nat.le_of_ble_eq_true rfl) (by decide) dX7_cup_112 rfl ?_
            exact j_iret dX7_cup_115 rfl (by first | rfl | (exfalso; omega)) (by rfl)
        · skip
          have e : mCup (S 0) p w = -1 := by unfold mCup; exact if_pos (by omega)
          rw [e]
          refine j_iconst 20 dX7_cup_19 rfl ?_
          exact j_iret dX7_cup_20 rfl (by first | rfl | (exfalso; omega)) (by rfl)
theorem kX7_apple_X7_isBox : jKs mX7_apple 100 yX7_isBox wsX7_isBox rmX7_isBox 1 := ⟨gX7_apple_X7_isBox, ⟨_, _, _, _, rfl, by decide⟩, by decide +kernel, rfl, rfl, by decide⟩
set_option maxRecDepth 20000 in
theorem in_X7_apple_X7 : ∀ x ∈ u_ws RX7 TX7 6, x ∈ wsX7_apple := by decide +kernel
set_option maxRecDepth 20000 in
theorem in_X7_apple_X5 : ∀ x ∈ u_ws RX5 TX5 11, x ∈ wsX7_apple := by decide +kernel
set_option maxRecDepth 20000 in
theorem in_X7_apple_X2 : ∀ x ∈ u_ws RX2 TX2 2, x ∈ wsX7_apple := by decide +kernel
theorem kX7_apple_X2_appleAt : jKv mX7_apple 160 yX2_appleAt wsX2_appleAt rmX2_appleAt 2 := ⟨gX7_apple_X2_appleAt, ⟨_, _, _, _, rfl, by decide⟩, by decide +kernel, rfl, rfl, by decide⟩
theorem kX7_apple_X6_weight : jKs mX7_apple 164 yX6_weight wsX6_weight rmX6_weight 1 := ⟨gX7_apple_X6_weight, ⟨_, _, _, _, rfl, by decide⟩, by decide +kernel, rfl, rfl, by decide⟩
theorem kX7_apple_X6_red : jKs mX7_apple 167 yX6_red wsX6_red rmX6_red 1 := ⟨gX7_apple_X6_red, ⟨_, _, _, _, rfl, by decide⟩, by decide +kernel, rfl, rfl, by decide⟩
theorem kX7_apple_X6_bruise : jKs mX7_apple 170 yX6_bruise wsX6_bruise rmX6_bruise 1 := ⟨gX7_apple_X6_bruise, ⟨_, _, _, _, rfl, by decide⟩, by decide +kernel, rfl, rfl, by decide⟩
theorem kX7_apple_X5_isWrong : jKv mX7_apple 173 yX5_isWrong wsX5_isWrong rmX5_isWrong 2 := ⟨gX7_apple_X5_isWrong, ⟨_, _, _, _, rfl, by decide⟩, by decide +kernel, rfl, rfl, by decide⟩
set_option maxRecDepth 100000 in
set_option maxHeartbeats 4000000 in
theorem c_X7_apple (E : jE) (ad qh : Nat → Nat → Nat) (S H : Nat → Nat → Int → Int) (P : Nat → Int → Int) (v : Int → Int) (l i w : Int) (hc0 : cOK S H P v) (lb : -2147483648 ≤ l ∧ l < 2147483648) (ib : -2147483648 ≤ i ∧ i < 2147483648) (wb : -2147483648 ≤ w ∧ w < 2147483648) : jMI E yX7_apple wsX7_apple rmX7_apple [.ref (ad 7 0), .int (jI l), .int (jI i), .int (jI w)] (wEye E ad qh S H P v) (mApple (S 0) l i w) (wEye E ad qh S H P v) := by
  refine jMI_of (cc := cX7_apple) (maxL := 5) (ret := (some .int)) [(0, .ref (ad 7 0)), (1, .int (jI l)), (2, .int (jI i)), (3, .int (jI w))] (by decide) rfl rfl (Nat.le_of_ble_eq_true rfl) (fun C => ?_)
  show jG mX7_apple E C (jQi E C (mApple (S 0) l i w) (wEye E ad qh S H P v)) 0 0 0 [(0, .ref (ad 7 0)), (1, .int (jI l)), (2, .int (jI i)), (3, .int (jI w))] [] (wEye E ad qh S H P v)
  obtain ⟨okS, okH, rv1, rv2, rv0, rv3, rP0⟩ := hc0
  have hx := okS 0
  have r0 : ∀ i, 0 ≤ S 0 0 i ∧ S 0 0 i < 404000 := hx 0
  have r1 : ∀ i, 0 ≤ S 0 1 i ∧ S 0 1 i ≤ 3 := hx 1
  have r2 : ∀ i, 0 ≤ S 0 2 i ∧ S 0 2 i ≤ 2 := hx 2
  have r3 : ∀ i, -1 ≤ S 0 3 i ∧ S 0 3 i ≤ 4 := hx 3
  have r4 : ∀ i, 0 ≤ S 0 4 i ∧ S 0 4 i < 404000 := hx 4
  have r5 : ∀ i, 0 ≤ S 0 5 i ∧ S 0 5 i ≤ 512 ∧ (i < 4 → S 0 5 i ≤ 20) := hx 5
  have r6 : ∀ i, 0 ≤ S 0 6 i ∧ S 0 6 i < 404000 := hx 6
  have r7 : (-20 ≤ S 0 7 0 ∧ S 0 7 0 ≤ 20) ∧ (0 ≤ S 0 7 1 ∧ S 0 7 1 ≤ 9) ∧ (1 ≤ S 0 7 2 ∧ S 0 7 2 ≤ 20) := hx 7
  have r8 : ∀ i, S 0 8 i = 0 ∨ S 0 8 i = 1 := hx 8
  have r9 : 0 ≤ S 0 9 0 ∧ S 0 9 0 ≤ 8 := hx 9
  have r20 := r2 0
  refine j_iload_n 1 1 dX7_apple_0 rfl rfl ?_
  refine j_callSiB (wcs := []) (cs := []) [] 4 [_, _, _, _, _, _, _, _, _, _] (c_X7_isBox E _ (by omega)) rfl rfl rfl kX7_apple_X7_isBox rfl rfl rfl rfl (Nat.le_of_ble_eq_true rfl) (by decide) dX7_apple_1 rfl ?_
  have ll : (0 ≤ l ∧ l ≤ 4 ∧ (if 0 ≤ l ∧ l ≤ 4 then (1 : Int) else 0) = 1) ∨ (¬ (0 ≤ l ∧ l ≤ 4) ∧ (if 0 ≤ l ∧ l ≤ 4 then (1 : Int) else 0) = 0) := by split <;> omega
  have r5l := r5 l
  have r6i := r6 (l * 20 + i)
  have w01 := sWr_01 (S 0) l (S 0 6 (l * 20 + i))
  refine j_if_eq 20 7 dX7_apple_4 rfl (by decide) (by omega) (fun h_4 => ?_) (fun h_4 => ?_)
  · skip
    have e : mApple (S 0) l i w = -1 := by unfold mApple; exact if_pos (by omega)
    rw [e]
    refine j_iconst 21 dX7_apple_20 rfl ?_
    exact j_iret dX7_apple_21 rfl (by first | rfl | (exfalso; omega)) (by rfl)
  · skip
    refine j_iload_n 2 8 dX7_apple_7 rfl rfl ?_
    refine j_if_lt 20 11 dX7_apple_8 rfl (by decide) (by omega) (fun h_8 => ?_) (fun h_8 => ?_)
    · skip
      have e : mApple (S 0) l i w = -1 := by unfold mApple; exact if_pos (by omega)
      rw [e]
      refine j_iconst 21 dX7_apple_20 rfl ?_
      exact j_iret dX7_apple_21 rfl (by first | rfl | (exfalso; omega)) (by rfl)
    · skip
      refine j_iload_n 3 12 dX7_apple_11 rfl rfl ?_
      refine j_if_lt 20 15 dX7_apple_12 rfl (by decide) (by omega) (fun h_12 => ?_) (fun h_12 => ?_)
      · skip
        have e : mApple (S 0) l i w = -1 := by unfold mApple; exact if_pos (by omega)
        rw [e]
        refine j_iconst 21 dX7_apple_20 rfl ?_
        exact j_iret dX7_apple_21 rfl (by first | rfl | (exfalso; omega)) (by rfl)
      · skip
        refine j_iload_n 3 16 dX7_apple_15 rfl rfl ?_
        refine j_iconst 17 dX7_apple_16 rfl ?_
        refine j_icmp_le 22 20 dX7_apple_17 rfl (by decide) (by omega) (by omega) (fun h_17 => ?_) (fun h_17 => ?_)
        · skip
          refine j_iload_n 2 23 dX7_apple_22 rfl rfl ?_
          refine j_aload_n 0 24 dX7_apple_23 rfl rfl ?_
          refine j_getB 0 0 0 1 27 in_X7_apple_X7 dX7_apple_24 rfl rfl rfl rfl (by decide) rfl rfl ?_
          refine j_getB 3 0 2 2 30 in_X7_apple_X5 dX7_apple_27 rfl rfl rfl rfl (by decide) rfl rfl ?_
          refine j_getB 3 8 0 3 33 in_X7_apple_X2 dX7_apple_30 rfl rfl rfl rfl (by decide) rfl rfl ?_
          refine j_iload_n 1 34 dX7_apple_33 rfl rfl ?_
          refine j_ialdB 3 9 35 dX7_apple_34 rfl rfl rfl (by decide) (by omega) ?_
          refine j_icmp_lt 41 38 dX7_apple_35 rfl (by decide) (by omega) (by omega) (fun h_35 => ?_) (fun h_35 => ?_)
          · skip
            refine j_aload_n 0 42 dX7_apple_41 rfl rfl ?_
            refine j_getB 0 0 0 1 45 in_X7_apple_X7 dX7_apple_42 rfl rfl rfl rfl (by decide) rfl rfl ?_
            refine j_getB 3 0 2 2 48 in_X7_apple_X5 dX7_apple_45 rfl rfl rfl rfl (by decide) rfl rfl ?_
            refine j_iload_n 1 49 dX7_apple_48 rfl rfl ?_
            refine j_iload_n 2 50 dX7_apple_49 rfl rfl ?_
            refine j_callViP 3 8 [8, 9, 10] 53 [_, _, _, _, _, _, _, _, _, _, _, _, _] [_, _, _, _, _, _, _, _, _, _] (c_X2_appleAt E _ _ _ _ _ _ _ (by omega)) rfl kX7_apple_X2_appleAt rfl rfl rfl rfl rfl rfl rfl rfl rfl (Nat.le_of_ble_eq_true rfl) (by decide) dX7_apple_50 rfl ?_
            refine j_istore 55 [_, _, _, _, _] dX7_apple_53 rfl (by decide) rfl ?_
            refine j_iload_n 4 56 dX7_apple_55 rfl rfl ?_
            rcases (show w = 0 ∨ w = 1 ∨ w = 2 ∨ (w < 0 ∨ 2 < w) by omega) with hc | hc | hc | hc
            · skip
              have e : mApple (S 0) l i w = tW (S 0 6 (l * 20 + i)) := by unfold mApple; rw [if_neg (by omega), if_neg (by omega), if_pos (by omega)]
              rw [e]
              refine j_tabIn 0 84 hc dX7_apple_56 (by decide) rfl (by decide) ?_
              refine j_iload 0 86 dX7_apple_84 rfl rfl ?_
              refine j_callSiB (wcs := []) (cs := []) [] 89 [_, _, _, _, _, _, _, _, _, _] (c_X6_weight E _ (by omega)) rfl rfl rfl kX7_apple_X6_weight rfl rfl rfl rfl (Nat.le_of_ble_eq_true rfl) (by decide) dX7_apple_86 rfl ?_
              exact j_iret dX7_apple_89 rfl (by first | rfl | (exfalso; omega)) (by rfl)
            · skip
              have e : mApple (S 0) l i w = tR (S 0 6 (l * 20 + i)) := by unfold mApple; rw [if_neg (by omega), if_neg (by omega), if_neg (by omega), if_pos (by omega)]
              rw [e]
              refine j_tabIn 1 90 hc dX7_apple_56 (by decide) rfl (by decide) ?_
              refine j_iload 0 92 dX7_apple_90 rfl rfl ?_
              refine j_callSiB (wcs := []) (cs := []) [] 95 [_, _, _, _, _, _, _, _, _, _] (c_X6_red E _ (by omega)) rfl rfl rfl kX7_apple_X6_red rfl rfl rfl rfl (Nat.le_of_ble_eq_true rfl) (by decide) dX7_apple_92 rfl ?_
              exact j_iret dX7_apple_95 rfl (by first | rfl | (exfalso; omega)) (by rfl)
            · skip
              have e : mApple (S 0) l i w = tB (S 0 6 (l * 20 + i)) := by unfold mApple; rw [if_neg (by omega), if_neg (by omega), if_neg (by omega), if_neg (by omega), if_pos (by omega)]
              rw [e]
              refine j_tabIn 2 96 hc dX7_apple_56 (by decide) rfl (by decide) ?_
              refine j_iload 0 98 dX7_apple_96 rfl rfl ?_
              refine j_callSiB (wcs := []) (cs := []) [] 101 [_, _, _, _, _, _, _, _, _, _] (c_X6_bruise E _ (by omega)) rfl rfl rfl kX7_apple_X6_bruise rfl rfl rfl rfl (Nat.le_of_ble_eq_true rfl) (by decide) dX7_apple_98 rfl ?_
              exact j_iret dX7_apple_101 rfl (by first | rfl | (exfalso; omega)) (by rfl)
            · skip
              have e : mApple (S 0) l i w = sWr (S 0) l (S 0 6 (l * 20 + i)) := by unfold mApple; rw [if_neg (by omega), if_neg (by omega), if_neg (by omega), if_neg (by omega), if_neg (by omega)]
              rw [e]
              refine j_tabOut 102 dX7_apple_56 (by omega) hc (by decide) ?_
              refine j_aload_n 1 103 dX7_apple_102 rfl rfl ?_
              refine j_getB 0 0 0 1 106 in_X7_apple_X7 dX7_apple_103 rfl rfl rfl rfl (by decide) rfl rfl ?_
              refine j_iload_n 2 107 dX7_apple_106 rfl rfl ?_
              refine j_iload 0 109 dX7_apple_107 rfl rfl ?_
              refine j_callViB (wcs := [_]) (cs := [_]) 3 0 [3] 112 [_, _, _, _, _, _, _, _, _, _] (c_X5_isWrong E _ _ _ _ (by exact hx) (by omega) (by omega)) rfl rfl rfl kX7_apple_X5_isWrong rfl rfl rfl rfl rfl rfl rfl (Nat.le_of_ble_eq_true rfl) (by decide) dX7_apple_109 rfl ?_
              refine j_if_eq 119 115 dX7_apple_112 rfl (by decide) (by omega) (fun h_112 => ?_) (fun h_112 => ?_)
              · skip
                rw [h_112]
                refine j_iconst 120 dX7_apple_119 rfl ?_
                exact j_iret dX7_apple_120 rfl (by first | rfl | (exfalso; omega)) (by rfl)
              · skip
                rw [show sWr (S 0) l (S 0 6 (l * 20 + i)) = 1 by omega]
                refine j_iconst 116 dX7_apple_115 rfl ?_
                refine j_goto 120 dX7_apple_116 (by decide) ?_
                exact j_iret dX7_apple_120 rfl (by first | rfl | (exfalso; omega)) (by rfl)
          · skip
            have e : mApple (S 0) l i w = -4 := by unfold mApple; rw [if_neg (by omega), if_pos (by omega)]
            rw [e]
            refine j_bipush 40 dX7_apple_38 rfl (by decide) ?_
            exact j_iret dX7_apple_40 rfl (by first | rfl | (exfalso; omega)) (by rfl)
        · skip
          have e : mApple (S 0) l i w = -1 := by unfold mApple; exact if_pos (by omega)
          rw [e]
          refine j_iconst 21 dX7_apple_20 rfl ?_
          exact j_iret dX7_apple_21 rfl (by first | rfl | (exfalso; omega)) (by rfl)
theorem kX7_box_X7_isBox : jKs mX7_box 100 yX7_isBox wsX7_isBox rmX7_isBox 1 := ⟨gX7_box_X7_isBox, ⟨_, _, _, _, rfl, by decide⟩, by decide +kernel, rfl, rfl, by decide⟩
set_option maxRecDepth 20000 in
theorem in_X7_box_X7 : ∀ x ∈ u_ws RX7 TX7 6, x ∈ wsX7_box := by decide +kernel
set_option maxRecDepth 20000 in
theorem in_X7_box_X5 : ∀ x ∈ u_ws RX5 TX5 11, x ∈ wsX7_box := by decide +kernel
set_option maxRecDepth 20000 in
theorem in_X7_box_X2 : ∀ x ∈ u_ws RX2 TX2 2, x ∈ wsX7_box := by decide +kernel
theorem kX7_box_X2_weightIn : jKv mX7_box 177 yX2_weightIn wsX2_weightIn rmX2_weightIn 1 := ⟨gX7_box_X2_weightIn, ⟨_, _, _, _, rfl, by decide⟩, by decide +kernel, rfl, rfl, by decide⟩
theorem kX7_box_X5_wrongIn : jKv mX7_box 178 yX5_wrongIn wsX5_wrongIn rmX5_wrongIn 1 := ⟨gX7_box_X5_wrongIn, ⟨_, _, _, _, rfl, by decide⟩, by decide +kernel, rfl, rfl, by decide⟩
theorem kX7_box_X2_leastRed : jKv mX7_box 181 yX2_leastRed wsX2_leastRed rmX2_leastRed 1 := ⟨gX7_box_X2_leastRed, ⟨_, _, _, _, rfl, by decide⟩, by decide +kernel, rfl, rfl, by decide⟩
theorem kX7_box_X2_greatestBruise : jKv mX7_box 184 yX2_greatestBruise wsX2_greatestBruise rmX2_greatestBruise 1 := ⟨gX7_box_X2_greatestBruise, ⟨_, _, _, _, rfl, by decide⟩, by decide +kernel, rfl, rfl, by decide⟩
set_option maxRecDepth 100000 in
set_option maxHeartbeats 4000000 in
theorem c_X7_box (E : jE) (ad qh : Nat → Nat → Nat) (S H : Nat → Nat → Int → Int) (P : Nat → Int → Int) (v : Int → Int) (l w : Int) (hc0 : cOK S H P v) (lb : -2147483648 ≤ l ∧ l < 2147483648) (wb : -2147483648 ≤ w ∧ w < 2147483648) : jMI E yX7_box wsX7_box rmX7_box [.ref (ad 7 0), .int (jI l), .int (jI w)] (wEye E ad qh S H P v) (mBox (S 0) l w) (wEye E ad qh S H P v) := by
  refine jMI_of (cc := cX7_box) (maxL := 3) (ret := (some .int)) [(0, .ref (ad 7 0)), (1, .int (jI l)), (2, .int (jI w))] (by decide) rfl rfl (Nat.le_of_ble_eq_true rfl) (fun C => ?_)
  show jG mX7_box E C (jQi E C (mBox (S 0) l w) (wEye E ad qh S H P v)) 0 0 0 [(0, .ref (ad 7 0)), (1, .int (jI l)), (2, .int (jI w))] [] (wEye E ad qh S H P v)
  obtain ⟨okS, okH, rv1, rv2, rv0, rv3, rP0⟩ := hc0
  have hx := okS 0
  have r0 : ∀ i, 0 ≤ S 0 0 i ∧ S 0 0 i < 404000 := hx 0
  have r1 : ∀ i, 0 ≤ S 0 1 i ∧ S 0 1 i ≤ 3 := hx 1
  have r2 : ∀ i, 0 ≤ S 0 2 i ∧ S 0 2 i ≤ 2 := hx 2
  have r3 : ∀ i, -1 ≤ S 0 3 i ∧ S 0 3 i ≤ 4 := hx 3
  have r4 : ∀ i, 0 ≤ S 0 4 i ∧ S 0 4 i < 404000 := hx 4
  have r5 : ∀ i, 0 ≤ S 0 5 i ∧ S 0 5 i ≤ 512 ∧ (i < 4 → S 0 5 i ≤ 20) := hx 5
  have r6 : ∀ i, 0 ≤ S 0 6 i ∧ S 0 6 i < 404000 := hx 6
  have r7 : (-20 ≤ S 0 7 0 ∧ S 0 7 0 ≤ 20) ∧ (0 ≤ S 0 7 1 ∧ S 0 7 1 ≤ 9) ∧ (1 ≤ S 0 7 2 ∧ S 0 7 2 ≤ 20) := hx 7
  have r8 : ∀ i, S 0 8 i = 0 ∨ S 0 8 i = 1 := hx 8
  have r9 : 0 ≤ S 0 9 0 ∧ S 0 9 0 ≤ 8 := hx 9
  have r20 := r2 0
  refine j_iload_n 1 1 dX7_box_0 rfl rfl ?_
  refine j_callSiB (wcs := []) (cs := []) [] 4 [_, _, _, _, _, _, _, _, _, _] (c_X7_isBox E _ (by omega)) rfl rfl rfl kX7_box_X7_isBox rfl rfl rfl rfl (Nat.le_of_ble_eq_true rfl) (by decide) dX7_box_1 rfl ?_
  have ll : (0 ≤ l ∧ l ≤ 4 ∧ (if 0 ≤ l ∧ l ≤ 4 then (1 : Int) else 0) = 1) ∨ (¬ (0 ≤ l ∧ l ≤ 4) ∧ (if 0 ≤ l ∧ l ≤ 4 then (1 : Int) else 0) = 0) := by split <;> omega
  have r5l := r5 l
  have r8l := r8 l
  have h6 : ∀ i, 0 ≤ S 0 6 i ∧ S 0 6 i < 2147483648 := fun i => by have := r6 i; omega
  refine j_if_eq 16 7 dX7_box_4 rfl (by decide) (by omega) (fun h_4 => ?_) (fun h_4 => ?_)
  · skip
    have e : mBox (S 0) l w = -1 := by unfold mBox; exact if_pos (by omega)
    rw [e]
    refine j_iconst 17 dX7_box_16 rfl ?_
    exact j_iret dX7_box_17 rfl (by first | rfl | (exfalso; omega)) (by rfl)
  · skip
    refine j_iload_n 2 8 dX7_box_7 rfl rfl ?_
    refine j_if_lt 16 11 dX7_box_8 rfl (by decide) (by omega) (fun h_8 => ?_) (fun h_8 => ?_)
    · skip
      have e : mBox (S 0) l w = -1 := by unfold mBox; exact if_pos (by omega)
      rw [e]
      refine j_iconst 17 dX7_box_16 rfl ?_
      exact j_iret dX7_box_17 rfl (by first | rfl | (exfalso; omega)) (by rfl)
    · skip
      refine j_iload_n 2 12 dX7_box_11 rfl rfl ?_
      refine j_iconst 13 dX7_box_12 rfl ?_
      refine j_icmp_le 18 16 dX7_box_13 rfl (by decide) (by omega) (by omega) (fun h_13 => ?_) (fun h_13 => ?_)
      · skip
        refine j_iload_n 2 19 dX7_box_18 rfl rfl ?_
        rcases (show w = 0 ∨ w = 1 ∨ w = 2 ∨ w = 3 ∨ w = 4 ∨ (w < 0 ∨ 4 < w) by omega) with hc | hc | hc | hc | hc | hc
        · skip
          have e : mBox (S 0) l w = S 0 5 l := by unfold mBox; rw [if_neg (by omega), if_pos (by omega)]
          rw [e]
          refine j_tabIn 0 52 hc dX7_box_19 (by decide) rfl (by decide) ?_
          refine j_aload_n 0 53 dX7_box_52 rfl rfl ?_
          refine j_getB 0 0 0 1 56 in_X7_box_X7 dX7_box_53 rfl rfl rfl rfl (by decide) rfl rfl ?_
          refine j_getB 3 0 2 2 59 in_X7_box_X5 dX7_box_56 rfl rfl rfl rfl (by decide) rfl rfl ?_
          refine j_getB 3 8 0 3 62 in_X7_box_X2 dX7_box_59 rfl rfl rfl rfl (by decide) rfl rfl ?_
          refine j_iload_n 1 63 dX7_box_62 rfl rfl ?_
          refine j_ialdB 3 9 64 dX7_box_63 rfl rfl rfl (by decide) (by omega) ?_
          exact j_iret dX7_box_64 rfl (by first | rfl | (exfalso; omega)) (by rfl)
        · skip
          have e : mBox (S 0) l w = jSum (fun i => tW (S 0 6 (l * 20 + i))) (S 0 5 l).toNat := by unfold mBox; rw [if_neg (by omega), if_neg (by omega), if_pos (by omega)]
          rw [e]
          refine j_tabIn 1 65 hc dX7_box_19 (by decide) rfl (by decide) ?_
          refine j_aload_n 0 66 dX7_box_65 rfl rfl ?_
          refine j_getB 0 0 0 1 69 in_X7_box_X7 dX7_box_66 rfl rfl rfl rfl (by decide) rfl rfl ?_
          refine j_getB 3 0 2 2 72 in_X7_box_X5 dX7_box_69 rfl rfl rfl rfl (by decide) rfl rfl ?_
          refine j_iload_n 1 73 dX7_box_72 rfl rfl ?_
          refine j_callViP 3 8 [8, 9, 10] 76 [_, _, _, _, _, _, _, _, _, _, _, _, _] [_, _, _, _, _, _, _, _, _, _] (c_X2_weightIn E _ _ _ _ _ _ (by omega) (by omega) (by exact h6)) rfl kX7_box_X2_weightIn rfl rfl rfl rfl rfl rfl rfl rfl rfl (Nat.le_of_ble_eq_true rfl) (by decide) dX7_box_73 rfl ?_
          exact j_iret dX7_box_76 rfl (by first | rfl | (exfalso; omega)) (by rfl)
        · skip
          have e : mBox (S 0) l w = sWi (S 0) l := by unfold mBox; rw [if_neg (by omega), if_neg (by omega), if_neg (by omega), if_pos (by omega)]
          rw [e]
          refine j_tabIn 2 77 hc dX7_box_19 (by decide) rfl (by decide) ?_
          refine j_aload_n 0 78 dX7_box_77 rfl rfl ?_
          refine j_getB 0 0 0 1 81 in_X7_box_X7 dX7_box_78 rfl rfl rfl rfl (by decide) rfl rfl ?_
          refine j_iload_n 1 82 dX7_box_81 rfl rfl ?_
          refine j_callViB (wcs := [_]) (cs := [_]) 3 0 [3] 85 [_, _, _, _, _, _, _, _, _, _] (c_X5_wrongIn E _ _ _ (by exact hx) (by omega)) rfl rfl rfl kX7_box_X5_wrongIn rfl rfl rfl rfl rfl rfl rfl (Nat.le_of_ble_eq_true rfl) (by decide) dX7_box_82 rfl ?_
          exact j_iret dX7_box_85 rfl (by first | rfl | (exfalso; omega)) (by rfl)
        · skip
          have e : mBox (S 0) l w = lrU (S 0 6) (l * 20) (S 0 5 l).toNat := by unfold mBox; rw [if_neg (by omega), if_neg (by omega), if_neg (by omega), if_neg (by omega), if_pos (by omega)]
          rw [e]
          refine j_tabIn 3 86 hc dX7_box_19 (by decide) rfl (by decide) ?_
          refine j_aload_n 0 87 dX7_box_86 rfl rfl ?_
          refine j_getB 0 0 0 1 90 in_X7_box_X7 dX7_box_87 rfl rfl rfl rfl (by decide) rfl rfl ?_
          refine j_getB 3 0 2 2 93 in_X7_box_X5 dX7_box_90 rfl rfl rfl rfl (by decide) rfl rfl ?_
          refine j_iload_n 1 94 dX7_box_93 rfl rfl ?_
          refine j_callViP 3 8 [8, 9, 10] 97 [_, _, _, _, _, _, _, _, _, _, _, _, _] [_, _, _, _, _, _, _, _, _, _] (c_X2_leastRed E _ _ _ _ _ _ (by omega) (by omega) (by exact h6)) rfl kX7_box_X2_leastRed rfl rfl rfl rfl rfl rfl rfl rfl rfl (Nat.le_of_ble_eq_true rfl) (by decide) dX7_box_94 rfl ?_
          exact j_iret dX7_box_97 rfl (by first | rfl | (exfalso; omega)) (by rfl)
        · skip
          have e : mBox (S 0) l w = gbU (S 0 6) (l * 20) (S 0 5 l).toNat := by unfold mBox; rw [if_neg (by omega), if_neg (by omega), if_neg (by omega), if_neg (by omega), if_neg (by omega), if_pos (by omega)]
          rw [e]
          refine j_tabIn 4 98 hc dX7_box_19 (by decide) rfl (by decide) ?_
          refine j_aload_n 0 99 dX7_box_98 rfl rfl ?_
          refine j_getB 0 0 0 1 102 in_X7_box_X7 dX7_box_99 rfl rfl rfl rfl (by decide) rfl rfl ?_
          refine j_getB 3 0 2 2 105 in_X7_box_X5 dX7_box_102 rfl rfl rfl rfl (by decide) rfl rfl ?_
          refine j_iload_n 1 106 dX7_box_105 rfl rfl ?_
          refine j_callViP 3 8 [8, 9, 10] 109 [_, _, _, _, _, _, _, _, _, _, _, _, _] [_, _, _, _, _, _, _, _, _, _] (c_X2_greatestBruise E _ _ _ _ _ _ (by omega) (by omega) (by exact h6)) rfl kX7_box_X2_greatestBruise rfl rfl rfl rfl rfl rfl rfl rfl rfl (Nat.le_of_ble_eq_true rfl) (by decide) dX7_box_106 rfl ?_
          exact j_iret dX7_box_109 rfl (by first | rfl | (exfalso; omega)) (by rfl)
        · skip
          refine j_tabOut 110 dX7_box_19 (by omega) hc (by decide) ?_
          refine j_iload_n 1 111 dX7_box_110 rfl rfl ?_
          refine j_iconst 112 dX7_box_111 rfl ?_
          refine j_icmp_eq 127 115 dX7_box_112 rfl (by decide) (by omega) (by omega) (fun h_112 => ?_) (fun h_112 => ?_)
          · skip
            have e : mBox (S 0) l w = 1 := by unfold mBox; rw [if_neg (by omega), if_neg (by omega), if_neg (by omega), if_neg (by omega), if_neg (by omega), if_neg (by omega), if_pos (by omega)]
            rw [e]
            refine j_iconst 128 dX7_box_127 rfl ?_
            refine j_goto 132 dX7_box_128 (by decide) ?_
            exact j_iret dX7_box_132 rfl (by first | rfl | (exfalso; omega)) (by rfl)
          · skip
            refine j_aload_n 0 116 dX7_box_115 rfl rfl ?_
            refine j_getB 0 0 0 1 119 in_X7_box_X7 dX7_box_116 rfl rfl rfl rfl (by decide) rfl rfl ?_
            refine j_getB 3 0 4 4 122 in_X7_box_X5 dX7_box_119 rfl rfl rfl rfl (by decide) rfl rfl ?_
            refine j_iload_n 1 123 dX7_box_122 rfl rfl ?_
            refine j_zaldB 3 12 124 dX7_box_123 rfl rfl rfl (by decide) (by omega) ?_
            refine j_if_eq 131 127 dX7_box_124 rfl (by decide) (by omega) (fun h_124 => ?_) (fun h_124 => ?_)
            · skip
              have e : mBox (S 0) l w = 0 := by unfold mBox; rw [if_neg (by omega), if_neg (by omega), if_neg (by omega), if_neg (by omega), if_neg (by omega), if_neg (by omega), if_neg (by omega)]
              rw [e]
              refine j_iconst 132 dX7_box_131 rfl ?_
              exact j_iret dX7_box_132 rfl (by first | rfl | (exfalso; omega)) (by rfl)
            · skip
              have e : mBox (S 0) l w = 1 := by unfold mBox; rw [if_neg (by omega), if_neg (by omega), if_neg (by omega), if_neg (by omega), if_neg (by omega), if_neg (by omega), if_pos (by omega)]
              rw [e]
              refine j_iconst 128 dX7_box_127 rfl ?_
              refine j_goto 132 dX7_box_128 (by decide) ?_
              exact j_iret dX7_box_132 rfl (by first | rfl | (exfalso; omega)) (by rfl)
      · skip
        have e : mBox (S 0) l w = -1 := by unfold mBox; exact if_pos (by omega)
        rw [e]
        refine j_iconst 17 dX7_box_16 rfl ?_
        exact j_iret dX7_box_17 rfl (by first | rfl | (exfalso; omega)) (by rfl)
set_option maxRecDepth 20000 in
theorem in_X7_ruleOf_X7 : ∀ x ∈ u_ws RX7 TX7 6, x ∈ wsX7_ruleOf := by decide +kernel
set_option maxRecDepth 20000 in
theorem in_X7_ruleOf_X5 : ∀ x ∈ u_ws RX5 TX5 11, x ∈ wsX7_ruleOf := by decide +kernel
theorem kX7_ruleOf_X1_has : jKv mX7_ruleOf 90 yX1_has wsX1_has rmX1_has 1 := ⟨gX7_ruleOf_X1_has, ⟨_, _, _, _, rfl, by decide⟩, by decide +kernel, rfl, rfl, by decide⟩
set_option maxRecDepth 20000 in
theorem in_X7_ruleOf_X1 : ∀ x ∈ u_ws RX1 TX1 3, x ∈ wsX7_ruleOf := by decide +kernel
theorem kX7_ruleOf_X6_weight : jKs mX7_ruleOf 164 yX6_weight wsX6_weight rmX6_weight 1 := ⟨gX7_ruleOf_X6_weight, ⟨_, _, _, _, rfl, by decide⟩, by decide +kernel, rfl, rfl, by decide⟩
theorem kX7_ruleOf_X6_red : jKs mX7_ruleOf 167 yX6_red wsX6_red rmX6_red 1 := ⟨gX7_ruleOf_X6_red, ⟨_, _, _, _, rfl, by decide⟩, by decide +kernel, rfl, rfl, by decide⟩
theorem kX7_ruleOf_X6_bruise : jKs mX7_ruleOf 170 yX6_bruise wsX6_bruise rmX6_bruise 1 := ⟨gX7_ruleOf_X6_bruise, ⟨_, _, _, _, rfl, by decide⟩, by decide +kernel, rfl, rfl, by decide⟩
theorem kX7_ruleOf_X1_isHidden : jKv mX7_ruleOf 193 yX1_isHidden wsX1_isHidden rmX1_isHidden 1 := ⟨gX7_ruleOf_X1_isHidden, ⟨_, _, _, _, rfl, by decide⟩, by decide +kernel, rfl, rfl, by decide⟩
set_option maxRecDepth 100000 in
set_option maxHeartbeats 4000000 in
theorem c_X7_ruleOf (E : jE) (ad qh : Nat → Nat → Nat) (S H : Nat → Nat → Int → Int) (P : Nat → Int → Int) (v : Int → Int) (r w : Int) (hc0 : cOK S H P v) (rb : -2147483648 ≤ r ∧ r < 2147483648) (wb : -2147483648 ≤ w ∧ w < 2147483648) : jMI E yX7_ruleOf wsX7_ruleOf rmX7_ruleOf [.ref (ad 7 0), .int (jI r), .int (jI w)] (wEye E ad qh S H P v) (mRuleOf (S 0) r w) (wEye E ad qh S H P v) := by
  refine jMI_of (cc := cX7_ruleOf) (maxL := 4) (ret := (some .int)) [(0, .ref (ad 7 0)), (1, .int (jI r)), (2, .int (jI w))] (by decide) rfl rfl (Nat.le_of_ble_eq_true rfl) (fun C => ?_)
  show jG mX7_ruleOf E C (jQi E C (mRuleOf (S 0) r w) (wEye E ad qh S H P v)) 0 0 0 [(0, .ref (ad 7 0)), (1, .int (jI r)), (2, .int (jI w))] [] (wEye E ad qh S H P v)
  obtain ⟨okS, okH, rv1, rv2, rv0, rv3, rP0⟩ := hc0
  have hx := okS 0
  have r0 : ∀ i, 0 ≤ S 0 0 i ∧ S 0 0 i < 404000 := hx 0
  have r1 : ∀ i, 0 ≤ S 0 1 i ∧ S 0 1 i ≤ 3 := hx 1
  have r2 : ∀ i, 0 ≤ S 0 2 i ∧ S 0 2 i ≤ 2 := hx 2
  have r3 : ∀ i, -1 ≤ S 0 3 i ∧ S 0 3 i ≤ 4 := hx 3
  have r4 : ∀ i, 0 ≤ S 0 4 i ∧ S 0 4 i < 404000 := hx 4
  have r5 : ∀ i, 0 ≤ S 0 5 i ∧ S 0 5 i ≤ 512 ∧ (i < 4 → S 0 5 i ≤ 20) := hx 5
  have r6 : ∀ i, 0 ≤ S 0 6 i ∧ S 0 6 i < 404000 := hx 6
  have r7 : (-20 ≤ S 0 7 0 ∧ S 0 7 0 ≤ 20) ∧ (0 ≤ S 0 7 1 ∧ S 0 7 1 ≤ 9) ∧ (1 ≤ S 0 7 2 ∧ S 0 7 2 ≤ 20) := hx 7
  have r8 : ∀ i, S 0 8 i = 0 ∨ S 0 8 i = 1 := hx 8
  have r9 : 0 ≤ S 0 9 0 ∧ S 0 9 0 ≤ 8 := hx 9
  have r20 := r2 0
  refine j_aload_n 0 1 dX7_ruleOf_0 rfl rfl ?_
  refine j_getB 0 0 0 1 4 in_X7_ruleOf_X7 dX7_ruleOf_1 rfl rfl rfl rfl (by decide) rfl rfl ?_
  refine j_getB 3 0 0 2 7 in_X7_ruleOf_X5 dX7_ruleOf_4 rfl rfl rfl rfl (by decide) rfl rfl ?_
  refine j_iload_n 1 8 dX7_ruleOf_7 rfl rfl ?_
  refine j_callViP 3 1 [1, 2, 3] 11 [_, _, _, _, _, _, _, _, _, _, _, _, _] [_, _, _, _, _, _, _, _, _, _] (c_X1_has E _ _ _ _ _ _ _ (by omega) (by omega)) rfl kX7_ruleOf_X1_has rfl rfl rfl rfl rfl rfl rfl rfl rfl (Nat.le_of_ble_eq_true rfl) (by decide) dX7_ruleOf_8 rfl ?_
  have rr : (0 ≤ r ∧ r < S 0 9 0 ∧ (if 0 ≤ r ∧ r < S 0 9 0 then (1 : Int) else 0) = 1) ∨ (¬ (0 ≤ r ∧ r < S 0 9 0) ∧ (if 0 ≤ r ∧ r < S 0 9 0 then (1 : Int) else 0) = 0) := by split <;> omega
  have r0r := r0 r
  have r1r := r1 r
  have h01 := hidF_rng (x := S 0 0) (b := S 0 0 r) r.toNat 0
  refine j_if_eq 23 14 dX7_ruleOf_11 rfl (by decide) (by omega) (fun h_11 => ?_) (fun h_11 => ?_)
  · skip
    have e : mRuleOf (S 0) r w = -1 := by unfold mRuleOf; exact if_pos (by omega)
    rw [e]
    refine j_iconst 24 dX7_ruleOf_23 rfl ?_
    exact j_iret dX7_ruleOf_24 rfl (by first | rfl | (exfalso; omega)) (by rfl)
  · skip
    refine j_iload_n 2 15 dX7_ruleOf_14 rfl rfl ?_
    refine j_if_lt 23 18 dX7_ruleOf_15 rfl (by decide) (by omega) (fun h_15 => ?_) (fun h_15 => ?_)
    · skip
      have e : mRuleOf (S 0) r w = -1 := by unfold mRuleOf; exact if_pos (by omega)
      rw [e]
      refine j_iconst 24 dX7_ruleOf_23 rfl ?_
      exact j_iret dX7_ruleOf_24 rfl (by first | rfl | (exfalso; omega)) (by rfl)
    · skip
      refine j_iload_n 2 19 dX7_ruleOf_18 rfl rfl ?_
      refine j_iconst 20 dX7_ruleOf_19 rfl ?_
      refine j_icmp_le 25 23 dX7_ruleOf_20 rfl (by decide) (by omega) (by omega) (fun h_20 => ?_) (fun h_20 => ?_)
      · skip
        refine j_aload_n 0 26 dX7_ruleOf_25 rfl rfl ?_
        refine j_getB 0 0 0 1 29 in_X7_ruleOf_X7 dX7_ruleOf_26 rfl rfl rfl rfl (by decide) rfl rfl ?_
        refine j_getB 3 0 0 2 32 in_X7_ruleOf_X5 dX7_ruleOf_29 rfl rfl rfl rfl (by decide) rfl rfl ?_
        refine j_getB 3 1 0 3 35 in_X7_ruleOf_X1 dX7_ruleOf_32 rfl rfl rfl rfl (by decide) rfl rfl ?_
        refine j_iload_n 1 36 dX7_ruleOf_35 rfl rfl ?_
        refine j_ialdB 3 2 37 dX7_ruleOf_36 rfl rfl rfl (by decide) (by omega) ?_
        refine j_istore_n 38 [_, _, _, _] dX7_ruleOf_37 rfl (by decide) rfl ?_
        refine j_iload_n 3 39 dX7_ruleOf_38 rfl rfl ?_
        rcases (show w = 0 ∨ w = 1 ∨ w = 2 ∨ w = 3 ∨ (w < 0 ∨ 3 < w) by omega) with hc | hc | hc | hc | hc
        · skip
          have e : mRuleOf (S 0) r w = tW (S 0 0 r) := by unfold mRuleOf; rw [if_neg (by omega), if_pos (by omega)]
          rw [e]
          refine j_tabIn 0 68 hc dX7_ruleOf_39 (by decide) rfl (by decide) ?_
          refine j_iload_n 0 69 dX7_ruleOf_68 rfl rfl ?_
          refine j_callSiB (wcs := []) (cs := []) [] 72 [_, _, _, _, _, _, _, _, _, _] (c_X6_weight E _ (by omega)) rfl rfl rfl kX7_ruleOf_X6_weight rfl rfl rfl rfl (Nat.le_of_ble_eq_true rfl) (by decide) dX7_ruleOf_69 rfl ?_
          exact j_iret dX7_ruleOf_72 rfl (by first | rfl | (exfalso; omega)) (by rfl)
        · skip
          have e : mRuleOf (S 0) r w = tR (S 0 0 r) := by unfold mRuleOf; rw [if_neg (by omega), if_neg (by omega), if_pos (by omega)]
          rw [e]
          refine j_tabIn 1 73 hc dX7_ruleOf_39 (by decide) rfl (by decide) ?_
          refine j_iload_n 0 74 dX7_ruleOf_73 rfl rfl ?_
          refine j_callSiB (wcs := []) (cs := []) [] 77 [_, _, _, _, _, _, _, _, _, _] (c_X6_red E _ (by omega)) rfl rfl rfl kX7_ruleOf_X6_red rfl rfl rfl rfl (Nat.le_of_ble_eq_true rfl) (by decide) dX7_ruleOf_74 rfl ?_
          exact j_iret dX7_ruleOf_77 rfl (by first | rfl | (exfalso; omega)) (by rfl)
        · skip
          have e : mRuleOf (S 0) r w = tB (S 0 0 r) := by unfold mRuleOf; rw [if_neg (by omega), if_neg (by omega), if_neg (by omega), if_pos (by omega)]
          rw [e]
          refine j_tabIn 2 78 hc dX7_ruleOf_39 (by decide) rfl (by decide) ?_
          refine j_iload_n 0 79 dX7_ruleOf_78 rfl rfl ?_
          refine j_callSiB (wcs := []) (cs := []) [] 82 [_, _, _, _, _, _, _, _, _, _] (c_X6_bruise E _ (by omega)) rfl rfl rfl kX7_ruleOf_X6_bruise rfl rfl rfl rfl (Nat.le_of_ble_eq_true rfl) (by decide) dX7_ruleOf_79 rfl ?_
          exact j_iret dX7_ruleOf_82 rfl (by first | rfl | (exfalso; omega)) (by rfl)
        · skip
          have e : mRuleOf (S 0) r w = S 0 1 r := by unfold mRuleOf; rw [if_neg (by omega), if_neg (by omega), if_neg (by omega), if_neg (by omega), if_pos (by omega)]
          rw [e]
          refine j_tabIn 3 83 hc dX7_ruleOf_39 (by decide) rfl (by decide) ?_
          refine j_aload_n 1 84 dX7_ruleOf_83 rfl rfl ?_
          refine j_getB 0 0 0 1 87 in_X7_ruleOf_X7 dX7_ruleOf_84 rfl rfl rfl rfl (by decide) rfl rfl ?_
          refine j_getB 3 0 0 2 90 in_X7_ruleOf_X5 dX7_ruleOf_87 rfl rfl rfl rfl (by decide) rfl rfl ?_
          refine j_getB 3 1 1 4 93 in_X7_ruleOf_X1 dX7_ruleOf_90 rfl rfl rfl rfl (by decide) rfl rfl ?_
          refine j_iload_n 2 94 dX7_ruleOf_93 rfl rfl ?_
          refine j_ialdB 3 3 95 dX7_ruleOf_94 rfl rfl rfl (by decide) (by omega) ?_
          exact j_iret dX7_ruleOf_95 rfl (by first | rfl | (exfalso; omega)) (by rfl)
        · skip
          have e : mRuleOf (S 0) r w = hidF (S 0 0) (S 0 0 r) r.toNat 0 := by unfold mRuleOf; rw [if_neg (by omega), if_neg (by omega), if_neg (by omega), if_neg (by omega), if_neg (by omega)]
          rw [e]
          refine j_tabOut 96 dX7_ruleOf_39 (by omega) hc (by decide) ?_
          refine j_aload_n 1 97 dX7_ruleOf_96 rfl rfl ?_
          refine j_getB 0 0 0 1 100 in_X7_ruleOf_X7 dX7_ruleOf_97 rfl rfl rfl rfl (by decide) rfl rfl ?_
          refine j_getB 3 0 0 2 103 in_X7_ruleOf_X5 dX7_ruleOf_100 rfl rfl rfl rfl (by decide) rfl rfl ?_
          refine j_iload_n 2 104 dX7_ruleOf_103 rfl rfl ?_
          refine j_callViP 3 1 [1, 2, 3] 107 [_, _, _, _, _, _, _, _, _, _, _, _, _] [_, _, _, _, _, _, _, _, _, _] (c_X1_isHidden E _ _ _ _ _ _ _ (by omega) (by intro i; have := r0 i; omega) (by omega)) rfl kX7_ruleOf_X1_isHidden rfl rfl rfl rfl rfl rfl rfl rfl rfl (Nat.le_of_ble_eq_true rfl) (by decide) dX7_ruleOf_104 rfl ?_
          refine j_if_eq 114 110 dX7_ruleOf_107 rfl (by decide) (by omega) (fun h_107 => ?_) (fun h_107 => ?_)
          · skip
            rw [h_107]
            refine j_iconst 115 dX7_ruleOf_114 rfl ?_
            exact j_iret dX7_ruleOf_115 rfl (by first | rfl | (exfalso; omega)) (by rfl)
          · skip
            rw [show hidF (S 0 0) (S 0 0 r) r.toNat 0 = 1 by omega]
            refine j_iconst 111 dX7_ruleOf_110 rfl ?_
            refine j_goto 115 dX7_ruleOf_111 (by decide) ?_
            exact j_iret dX7_ruleOf_115 rfl (by first | rfl | (exfalso; omega)) (by rfl)
      · skip
        have e : mRuleOf (S 0) r w = -1 := by unfold mRuleOf; exact if_pos (by omega)
        rw [e]
        refine j_iconst 24 dX7_ruleOf_23 rfl ?_
        exact j_iret dX7_ruleOf_24 rfl (by first | rfl | (exfalso; omega)) (by rfl)
theorem kX7_lane_X6_inRange : jKs mX7_lane 40 yX6_inRange wsX6_inRange rmX6_inRange 3 := ⟨gX7_lane_X6_inRange, ⟨_, _, _, _, rfl, by decide⟩, by decide +kernel, rfl, rfl, by decide⟩
set_option maxRecDepth 20000 in
theorem in_X7_lane_X7 : ∀ x ∈ u_ws RX7 TX7 6, x ∈ wsX7_lane := by decide +kernel
theorem kX7_lane_X6_of : jKs mX7_lane 60 yX6_of wsX6_of rmX6_of 3 := ⟨gX7_lane_X6_of, ⟨_, _, _, _, rfl, by decide⟩, by decide +kernel, rfl, rfl, by decide⟩
theorem kX7_lane_X5_seen : jKv mX7_lane 196 yX5_seen wsX5_seen rmX5_seen 1 := ⟨gX7_lane_X5_seen, ⟨_, _, _, _, rfl, by decide⟩, by decide +kernel, rfl, rfl, by decide⟩
set_option maxRecDepth 20000 in
theorem in_X7_lane_X5 : ∀ x ∈ u_ws RX5 TX5 11, x ∈ wsX7_lane := by decide +kernel
theorem kX7_lane_X1_laneFromLast : jKv mX7_lane 202 yX1_laneFromLast wsX1_laneFromLast rmX1_laneFromLast 1 := ⟨gX7_lane_X1_laneFromLast, ⟨_, _, _, _, rfl, by decide⟩, by decide +kernel, rfl, rfl, by decide⟩
theorem kX7_lane_X1_laneFromFirst : jKv mX7_lane 199 yX1_laneFromFirst wsX1_laneFromFirst rmX1_laneFromFirst 1 := ⟨gX7_lane_X1_laneFromFirst, ⟨_, _, _, _, rfl, by decide⟩, by decide +kernel, rfl, rfl, by decide⟩
set_option maxRecDepth 100000 in
set_option maxHeartbeats 4000000 in
theorem c_X7_lane (E : jE) (ad qh : Nat → Nat → Nat) (S H : Nat → Nat → Int → Int) (P : Nat → Int → Int) (v : Int → Int) (a r b w : Int) (hc0 : cOK S H P v) (ab : -2147483648 ≤ a ∧ a < 2147483648) (rb : -2147483648 ≤ r ∧ r < 2147483648) (bb : -2147483648 ≤ b ∧ b < 2147483648) (wb : -2147483648 ≤ w ∧ w < 2147483648) : jMI E yX7_lane wsX7_lane rmX7_lane [.ref (ad 7 0), .int (jI a), .int (jI r), .int (jI b), .int (jI w)] (wEye E ad qh S H P v) (mLane (S 0) a r b w) (wEye E ad qh S H P v) := by
  refine jMI_of (cc := cX7_lane) (maxL := 6) (ret := (some .int)) [(0, .ref (ad 7 0)), (1, .int (jI a)), (2, .int (jI r)), (3, .int (jI b)), (4, .int (jI w))] (by decide) rfl rfl (Nat.le_of_ble_eq_true rfl) (fun C => ?_)
  show jG mX7_lane E C (jQi E C (mLane (S 0) a r b w) (wEye E ad qh S H P v)) 0 0 0 [(0, .ref (ad 7 0)), (1, .int (jI a)), (2, .int (jI r)), (3, .int (jI b)), (4, .int (jI w))] [] (wEye E ad qh S H P v)
  obtain ⟨okS, okH, rv1, rv2, rv0, rv3, rP0⟩ := hc0
  have hx := okS 0
  have r0 : ∀ i, 0 ≤ S 0 0 i ∧ S 0 0 i < 404000 := hx 0
  have r1 : ∀ i, 0 ≤ S 0 1 i ∧ S 0 1 i ≤ 3 := hx 1
  have r2 : ∀ i, 0 ≤ S 0 2 i ∧ S 0 2 i ≤ 2 := hx 2
  have r3 : ∀ i, -1 ≤ S 0 3 i ∧ S 0 3 i ≤ 4 := hx 3
  have r4 : ∀ i, 0 ≤ S 0 4 i ∧ S 0 4 i < 404000 := hx 4
  have r5 : ∀ i, 0 ≤ S 0 5 i ∧ S 0 5 i ≤ 512 ∧ (i < 4 → S 0 5 i ≤ 20) := hx 5
  have r6 : ∀ i, 0 ≤ S 0 6 i ∧ S 0 6 i < 404000 := hx 6
  have r7 : (-20 ≤ S 0 7 0 ∧ S 0 7 0 ≤ 20) ∧ (0 ≤ S 0 7 1 ∧ S 0 7 1 ≤ 9) ∧ (1 ≤ S 0 7 2 ∧ S 0 7 2 ≤ 20) := hx 7
  have r8 : ∀ i, S 0 8 i = 0 ∨ S 0 8 i = 1 := hx 8
  have r9 : 0 ≤ S 0 9 0 ∧ S 0 9 0 ≤ 8 := hx 9
  have r20 := r2 0
  refine j_iload_n 1 1 dX7_lane_0 rfl rfl ?_
  refine j_iload_n 2 2 dX7_lane_1 rfl rfl ?_
  refine j_iload_n 3 3 dX7_lane_2 rfl rfl ?_
  refine j_callSiB (wcs := []) (cs := []) [] 6 [_, _, _, _, _, _, _, _, _, _] (c_X6_inRange E _ _ _ (by omega) (by omega) (by omega)) rfl rfl rfl kX7_lane_X6_inRange rfl rfl rfl rfl (Nat.le_of_ble_eq_true rfl) (by decide) dX7_lane_3 rfl ?_
  have tt : (tIn a r b = 0) ∨ (tIn a r b = 1 ∧ (50 ≤ a ∧ a ≤ 300) ∧ (0 ≤ r ∧ r ≤ 100) ∧ (0 ≤ b ∧ b ≤ 9)) := by unfold tIn; split <;> omega
  refine j_if_eq 20 9 dX7_lane_6 rfl (by decide) (by omega) (fun h_6 => ?_) (fun h_6 => ?_)
  · skip
    have e : mLane (S 0) a r b w = -1 := by unfold mLane; exact if_pos (by omega)
    rw [e]
    refine j_iconst 21 dX7_lane_20 rfl ?_
    exact j_iret dX7_lane_21 rfl (by first | rfl | (exfalso; omega)) (by rfl)
  · skip
    refine j_iload 4 11 dX7_lane_9 rfl rfl ?_
    refine j_if_eq 22 14 dX7_lane_11 rfl (by decide) (by omega) (fun h_11 => ?_) (fun h_11 => ?_)
    · skip
      have e : mLane (S 0) a r b w = sLn (S 0) (sSee (S 0) (tOf a r b)) := if_neg (by omega)
      rw [e]
      have og : 0 ≤ tOf a r b ∧ tOf a r b < 404000 := tOf_rng (by omega) (by omega) (by omega)
      have sg := sSee_rng (t := tOf a r b) hx og
      refine j_aload_n 0 23 dX7_lane_22 rfl rfl ?_
      refine j_getB 0 0 0 1 26 in_X7_lane_X7 dX7_lane_23 rfl rfl rfl rfl (by decide) rfl rfl ?_
      refine j_iload_n 1 27 dX7_lane_26 rfl rfl ?_
      refine j_iload_n 2 28 dX7_lane_27 rfl rfl ?_
      refine j_iload_n 3 29 dX7_lane_28 rfl rfl ?_
      refine j_callSiB (wcs := []) (cs := []) [] 32 [_, _, _, _, _, _, _, _, _, _] (c_X6_of E _ _ _ ) rfl rfl rfl kX7_lane_X6_of rfl rfl rfl rfl (Nat.le_of_ble_eq_true rfl) (by decide) dX7_lane_29 rfl ?_
      refine j_callViB (wcs := [_]) (cs := [_]) 3 0 [3] 35 [_, _, _, _, _, _, _, _, _, _] (c_X5_seen E _ _ _ (by exact hx) (by exact og)) rfl rfl rfl kX7_lane_X5_seen rfl rfl rfl rfl rfl rfl rfl (Nat.le_of_ble_eq_true rfl) (by decide) dX7_lane_32 rfl ?_
      refine j_istore 37 [_, _, _, _, _, _] dX7_lane_35 rfl (by decide) rfl ?_
      refine j_iload 5 39 dX7_lane_37 rfl rfl ?_
      refine j_if_ne 57 42 dX7_lane_39 rfl (by decide) (by omega) (fun h_39 => ?_) (fun h_39 => ?_)
      · skip
        refine j_aload_n 1 58 dX7_lane_57 rfl rfl ?_
        refine j_getB 0 0 0 1 61 in_X7_lane_X7 dX7_lane_58 rfl rfl rfl rfl (by decide) rfl rfl ?_
        refine j_getB 3 0 0 2 64 in_X7_lane_X5 dX7_lane_61 rfl rfl rfl rfl (by decide) rfl rfl ?_
        refine j_iload 0 66 dX7_lane_64 rfl rfl ?_
        refine j_callViP 3 1 [1, 2, 3] 69 [_, _, _, _, _, _, _, _, _, _, _, _, _] [_, _, _, _, _, _, _, _, _, _] (c_X1_laneFromLast E _ _ _ _ _ _ _ (by omega) (by intro i; have := r0 i; omega) (by omega)) rfl kX7_lane_X1_laneFromLast rfl rfl rfl rfl rfl rfl rfl rfl rfl (Nat.le_of_ble_eq_true rfl) (by decide) dX7_lane_66 rfl ?_
        exact j_iret dX7_lane_69 rfl (by first | rfl | (exfalso; omega)) (by rfl)
      · skip
        refine j_aload_n 1 43 dX7_lane_42 rfl rfl ?_
        refine j_getB 0 0 0 1 46 in_X7_lane_X7 dX7_lane_43 rfl rfl rfl rfl (by decide) rfl rfl ?_
        refine j_getB 3 0 0 2 49 in_X7_lane_X5 dX7_lane_46 rfl rfl rfl rfl (by decide) rfl rfl ?_
        refine j_iload 0 51 dX7_lane_49 rfl rfl ?_
        refine j_callViP 3 1 [1, 2, 3] 54 [_, _, _, _, _, _, _, _, _, _, _, _, _] [_, _, _, _, _, _, _, _, _, _] (c_X1_laneFromFirst E _ _ _ _ _ _ _ (by omega) (by intro i; have := r0 i; omega) (by omega)) rfl kX7_lane_X1_laneFromFirst rfl rfl rfl rfl rfl rfl rfl rfl rfl (Nat.le_of_ble_eq_true rfl) (by decide) dX7_lane_51 rfl ?_
        refine j_goto 69 dX7_lane_54 (by decide) ?_
        exact j_iret dX7_lane_69 rfl (by first | rfl | (exfalso; omega)) (by rfl)
    · skip
      refine j_iload 4 16 dX7_lane_14 rfl rfl ?_
      refine j_iconst 17 dX7_lane_16 rfl ?_
      refine j_icmp_eq 22 20 dX7_lane_17 rfl (by decide) (by omega) (by omega) (fun h_17 => ?_) (fun h_17 => ?_)
      · skip
        have e : mLane (S 0) a r b w = sLn (S 0) (sSee (S 0) (tOf a r b)) := if_neg (by omega)
        rw [e]
        have og : 0 ≤ tOf a r b ∧ tOf a r b < 404000 := tOf_rng (by omega) (by omega) (by omega)
        have sg := sSee_rng (t := tOf a r b) hx og
        refine j_aload_n 0 23 dX7_lane_22 rfl rfl ?_
        refine j_getB 0 0 0 1 26 in_X7_lane_X7 dX7_lane_23 rfl rfl rfl rfl (by decide) rfl rfl ?_
        refine j_iload_n 1 27 dX7_lane_26 rfl rfl ?_
        refine j_iload_n 2 28 dX7_lane_27 rfl rfl ?_
        refine j_iload_n 3 29 dX7_lane_28 rfl rfl ?_
        refine j_callSiB (wcs := []) (cs := []) [] 32 [_, _, _, _, _, _, _, _, _, _] (c_X6_of E _ _ _ ) rfl rfl rfl kX7_lane_X6_of rfl rfl rfl rfl (Nat.le_of_ble_eq_true rfl) (by decide) dX7_lane_29 rfl ?_
        refine j_callViB (wcs := [_]) (cs := [_]) 3 0 [3] 35 [_, _, _, _, _, _, _, _, _, _] (c_X5_seen E _ _ _ (by exact hx) (by exact og)) rfl rfl rfl kX7_lane_X5_seen rfl rfl rfl rfl rfl rfl rfl (Nat.le_of_ble_eq_true rfl) (by decide) dX7_lane_32 rfl ?_
        refine j_istore 37 [_, _, _, _, _, _] dX7_lane_35 rfl (by decide) rfl ?_
        refine j_iload 5 39 dX7_lane_37 rfl rfl ?_
        refine j_if_ne 57 42 dX7_lane_39 rfl (by decide) (by omega) (fun h_39 => ?_) (fun h_39 => ?_)
        · skip
          refine j_aload_n 1 58 dX7_lane_57 rfl rfl ?_
          refine j_getB 0 0 0 1 61 in_X7_lane_X7 dX7_lane_58 rfl rfl rfl rfl (by decide) rfl rfl ?_
          refine j_getB 3 0 0 2 64 in_X7_lane_X5 dX7_lane_61 rfl rfl rfl rfl (by decide) rfl rfl ?_
          refine j_iload 0 66 dX7_lane_64 rfl rfl ?_
          refine j_callViP 3 1 [1, 2, 3] 69 [_, _, _, _, _, _, _, _, _, _, _, _, _] [_, _, _, _, _, _, _, _, _, _] (c_X1_laneFromLast E _ _ _ _ _ _ _ (by omega) (by intro i; have := r0 i; omega) (by omega)) rfl kX7_lane_X1_laneFromLast rfl rfl rfl rfl rfl rfl rfl rfl rfl (Nat.le_of_ble_eq_true rfl) (by decide) dX7_lane_66 rfl ?_
          exact j_iret dX7_lane_69 rfl (by first | rfl | (exfalso; omega)) (by rfl)
        · skip
          refine j_aload_n 1 43 dX7_lane_42 rfl rfl ?_
          refine j_getB 0 0 0 1 46 in_X7_lane_X7 dX7_lane_43 rfl rfl rfl rfl (by decide) rfl rfl ?_
          refine j_getB 3 0 0 2 49 in_X7_lane_X5 dX7_lane_46 rfl rfl rfl rfl (by decide) rfl rfl ?_
          refine j_iload 0 51 dX7_lane_49 rfl rfl ?_
          refine j_callViP 3 1 [1, 2, 3] 54 [_, _, _, _, _, _, _, _, _, _, _, _, _] [_, _, _, _, _, _, _, _, _, _] (c_X1_laneFromFirst E _ _ _ _ _ _ _ (by omega) (by intro i; have := r0 i; omega) (by omega)) rfl kX7_lane_X1_laneFromFirst rfl rfl rfl rfl rfl rfl rfl rfl rfl (Nat.le_of_ble_eq_true rfl) (by decide) dX7_lane_51 rfl ?_
          refine j_goto 69 dX7_lane_54 (by decide) ?_
          exact j_iret dX7_lane_69 rfl (by first | rfl | (exfalso; omega)) (by rfl)
      · skip
        have e : mLane (S 0) a r b w = -1 := by unfold mLane; exact if_pos (by omega)
        rw [e]
        refine j_iconst 21 dX7_lane_20 rfl ?_
        exact j_iret dX7_lane_21 rfl (by first | rfl | (exfalso; omega)) (by rfl)
set_option maxRecDepth 20000 in
theorem in_X7_misses_X7 : ∀ x ∈ u_ws RX7 TX7 6, x ∈ wsX7_misses := by decide +kernel
set_option maxRecDepth 20000 in
theorem in_X7_misses_X5 : ∀ x ∈ u_ws RX5 TX5 11, x ∈ wsX7_misses := by decide +kernel
theorem kX7_misses_X1_has : jKv mX7_misses 90 yX1_has wsX1_has rmX1_has 1 := ⟨gX7_misses_X1_has, ⟨_, _, _, _, rfl, by decide⟩, by decide +kernel, rfl, rfl, by decide⟩
theorem kX7_misses_X6_inRange : jKs mX7_misses 40 yX6_inRange wsX6_inRange rmX6_inRange 3 := ⟨gX7_misses_X6_inRange, ⟨_, _, _, _, rfl, by decide⟩, by decide +kernel, rfl, rfl, by decide⟩
set_option maxRecDepth 20000 in
theorem in_X7_misses_X1 : ∀ x ∈ u_ws RX1 TX1 3, x ∈ wsX7_misses := by decide +kernel
theorem kX7_misses_X6_of : jKs mX7_misses 60 yX6_of wsX6_of rmX6_of 3 := ⟨gX7_misses_X6_of, ⟨_, _, _, _, rfl, by decide⟩, by decide +kernel, rfl, rfl, by decide⟩
theorem kX7_misses_X5_seen : jKv mX7_misses 196 yX5_seen wsX5_seen rmX5_seen 1 := ⟨gX7_misses_X5_seen, ⟨_, _, _, _, rfl, by decide⟩, by decide +kernel, rfl, rfl, by decide⟩
theorem kX7_misses_X6_shortOf : jKs mX7_misses 205 yX6_shortOf wsX6_shortOf rmX6_shortOf 2 := ⟨gX7_misses_X6_shortOf, ⟨_, _, _, _, rfl, by decide⟩, by decide +kernel, rfl, rfl, by decide⟩
set_option maxRecDepth 100000 in
set_option maxHeartbeats 4000000 in
theorem c_X7_misses (E : jE) (ad qh : Nat → Nat → Nat) (S H : Nat → Nat → Int → Int) (P : Nat → Int → Int) (v : Int → Int) (k a r b : Int) (hc0 : cOK S H P v) (kb : -2147483648 ≤ k ∧ k < 2147483648) (ab : -2147483648 ≤ a ∧ a < 2147483648) (rb : -2147483648 ≤ r ∧ r < 2147483648) (bb : -2147483648 ≤ b ∧ b < 2147483648) : jMI E yX7_misses wsX7_misses rmX7_misses [.ref (ad 7 0), .int (jI k), .int (jI a), .int (jI r), .int (jI b)] (wEye E ad qh S H P v) (mMisses (S 0) k a r b) (wEye E ad qh S H P v) := by
  refine jMI_of (cc := cX7_misses) (maxL := 5) (ret := (some .int)) [(0, .ref (ad 7 0)), (1, .int (jI k)), (2, .int (jI a)), (3, .int (jI r)), (4, .int (jI b))] (by decide) rfl rfl (Nat.le_of_ble_eq_true rfl) (fun C => ?_)
  show jG mX7_misses E C (jQi E C (mMisses (S 0) k a r b) (wEye E ad qh S H P v)) 0 0 0 [(0, .ref (ad 7 0)), (1, .int (jI k)), (2, .int (jI a)), (3, .int (jI r)), (4, .int (jI b))] [] (wEye E ad qh S H P v)
  obtain ⟨okS, okH, rv1, rv2, rv0, rv3, rP0⟩ := hc0
  have hx := okS 0
  have r0 : ∀ i, 0 ≤ S 0 0 i ∧ S 0 0 i < 404000 := hx 0
  have r1 : ∀ i, 0 ≤ S 0 1 i ∧ S 0 1 i ≤ 3 := hx 1
  have r2 : ∀ i, 0 ≤ S 0 2 i ∧ S 0 2 i ≤ 2 := hx 2
  have r3 : ∀ i, -1 ≤ S 0 3 i ∧ S 0 3 i ≤ 4 := hx 3
  have r4 : ∀ i, 0 ≤ S 0 4 i ∧ S 0 4 i < 404000 := hx 4
  have r5 : ∀ i, 0 ≤ S 0 5 i ∧ S 0 5 i ≤ 512 ∧ (i < 4 → S 0 5 i ≤ 20) := hx 5
  have r6 : ∀ i, 0 ≤ S 0 6 i ∧ S 0 6 i < 404000 := hx 6
  have r7 : (-20 ≤ S 0 7 0 ∧ S 0 7 0 ≤ 20) ∧ (0 ≤ S 0 7 1 ∧ S 0 7 1 ≤ 9) ∧ (1 ≤ S 0 7 2 ∧ S 0 7 2 ≤ 20) := hx 7
  have r8 : ∀ i, S 0 8 i = 0 ∨ S 0 8 i = 1 := hx 8
  have r9 : 0 ≤ S 0 9 0 ∧ S 0 9 0 ≤ 8 := hx 9
  have r20 := r2 0
  refine j_aload_n 0 1 dX7_misses_0 rfl rfl ?_
  refine j_getB 0 0 0 1 4 in_X7_misses_X7 dX7_misses_1 rfl rfl rfl rfl (by decide) rfl rfl ?_
  refine j_getB 3 0 0 2 7 in_X7_misses_X5 dX7_misses_4 rfl rfl rfl rfl (by decide) rfl rfl ?_
  refine j_iload_n 1 8 dX7_misses_7 rfl rfl ?_
  refine j_callViP 3 1 [1, 2, 3] 11 [_, _, _, _, _, _, _, _, _, _, _, _, _] [_, _, _, _, _, _, _, _, _, _] (c_X1_has E _ _ _ _ _ _ _ (by omega) (by omega)) rfl kX7_misses_X1_has rfl rfl rfl rfl rfl rfl rfl rfl rfl (Nat.le_of_ble_eq_true rfl) (by decide) dX7_misses_8 rfl ?_
  have rr : (0 ≤ k ∧ k < S 0 9 0 ∧ (if 0 ≤ k ∧ k < S 0 9 0 then (1 : Int) else 0) = 1) ∨ (¬ (0 ≤ k ∧ k < S 0 9 0) ∧ (if 0 ≤ k ∧ k < S 0 9 0 then (1 : Int) else 0) = 0) := by split <;> omega
  refine j_if_eq 24 14 dX7_misses_11 rfl (by decide) (by omega) (fun h_11 => ?_) (fun h_11 => ?_)
  · skip
    have e : mMisses (S 0) k a r b = -1 := by unfold mMisses; exact if_pos (by omega)
    rw [e]
    refine j_iconst 25 dX7_misses_24 rfl ?_
    exact j_iret dX7_misses_25 rfl (by first | rfl | (exfalso; omega)) (by rfl)
  · skip
    refine j_iload_n 2 15 dX7_misses_14 rfl rfl ?_
    refine j_iload_n 3 16 dX7_misses_15 rfl rfl ?_
    refine j_iload 4 18 dX7_misses_16 rfl rfl ?_
    refine j_callSiB (wcs := []) (cs := []) [] 21 [_, _, _, _, _, _, _, _, _, _] (c_X6_inRange E _ _ _ (by omega) (by omega) (by omega)) rfl rfl rfl kX7_misses_X6_inRange rfl rfl rfl rfl (Nat.le_of_ble_eq_true rfl) (by decide) dX7_misses_18 rfl ?_
    have tt : (tIn a r b = 0) ∨ (tIn a r b = 1 ∧ (50 ≤ a ∧ a ≤ 300) ∧ (0 ≤ r ∧ r ≤ 100) ∧ (0 ≤ b ∧ b ≤ 9)) := by unfold tIn; split <;> omega
    refine j_if_ne 26 24 dX7_misses_21 rfl (by decide) (by omega) (fun h_21 => ?_) (fun h_21 => ?_)
    · skip
      have e : mMisses (S 0) k a r b = tShort (S 0 0 k) (sSee (S 0) (tOf a r b)) := if_neg (by omega)
      rw [e]
      have og : 0 ≤ tOf a r b ∧ tOf a r b < 404000 := tOf_rng (by omega) (by omega) (by omega)
      have sg := sSee_rng (t := tOf a r b) hx og
      have r0k := r0 k
      refine j_aload_n 0 27 dX7_misses_26 rfl rfl ?_
      refine j_getB 0 0 0 1 30 in_X7_misses_X7 dX7_misses_27 rfl rfl rfl rfl (by decide) rfl rfl ?_
      refine j_getB 3 0 0 2 33 in_X7_misses_X5 dX7_misses_30 rfl rfl rfl rfl (by decide) rfl rfl ?_
      refine j_getB 3 1 0 3 36 in_X7_misses_X1 dX7_misses_33 rfl rfl rfl rfl (by decide) rfl rfl ?_
      refine j_iload_n 1 37 dX7_misses_36 rfl rfl ?_
      refine j_ialdB 3 2 38 dX7_misses_37 rfl rfl rfl (by decide) (by omega) ?_
      refine j_aload_n 0 39 dX7_misses_38 rfl rfl ?_
      refine j_getB 0 0 0 1 42 in_X7_misses_X7 dX7_misses_39 rfl rfl rfl rfl (by decide) rfl rfl ?_
      refine j_iload_n 2 43 dX7_misses_42 rfl rfl ?_
      refine j_iload_n 3 44 dX7_misses_43 rfl rfl ?_
      refine j_iload 4 46 dX7_misses_44 rfl rfl ?_
      refine j_callSiB (wcs := []) (cs := []) [] 49 [_, _, _, _, _, _, _, _, _, _] (c_X6_of E _ _ _ ) rfl rfl rfl kX7_misses_X6_of rfl rfl rfl rfl (Nat.le_of_ble_eq_true rfl) (by decide) dX7_misses_46 rfl ?_
      refine j_callViB (wcs := [_]) (cs := [_]) 3 0 [3] 52 [_, _, _, _, _, _, _, _, _, _] (c_X5_seen E _ _ _ (by exact hx) (by exact og)) rfl rfl rfl kX7_misses_X5_seen rfl rfl rfl rfl rfl rfl rfl (Nat.le_of_ble_eq_true rfl) (by decide) dX7_misses_49 rfl ?_
      refine j_callSiB (wcs := []) (cs := []) [] 55 [_, _, _, _, _, _, _, _, _, _] (c_X6_shortOf E _ _ (by omega) (by omega)) rfl rfl rfl kX7_misses_X6_shortOf rfl rfl rfl rfl (Nat.le_of_ble_eq_true rfl) (by decide) dX7_misses_52 rfl ?_
      exact j_iret dX7_misses_55 rfl (by first | rfl | (exfalso; omega)) (by rfl)
    · skip
      have e : mMisses (S 0) k a r b = -1 := by unfold mMisses; exact if_pos (by omega)
      rw [e]
      refine j_iconst 25 dX7_misses_24 rfl ?_
      exact j_iret dX7_misses_25 rfl (by first | rfl | (exfalso; omega)) (by rfl)
set_option maxRecDepth 20000 in
theorem in_X7_count_X7 : ∀ x ∈ u_ws RX7 TX7 6, x ∈ wsX7_count := by decide +kernel
set_option maxRecDepth 20000 in
theorem in_X7_count_X5 : ∀ x ∈ u_ws RX5 TX5 11, x ∈ wsX7_count := by decide +kernel
set_option maxRecDepth 20000 in
theorem in_X7_count_X1 : ∀ x ∈ u_ws RX1 TX1 3, x ∈ wsX7_count := by decide +kernel
theorem kX7_count_X0_apples : jKv mX7_count 211 yX0_apples wsX0_apples rmX0_apples 0 := ⟨gX7_count_X0_apples, ⟨_, _, _, _, rfl, by decide⟩, by decide +kernel, rfl, rfl, by decide⟩
theorem kX7_count_X0_doubles : jKv mX7_count 214 yX0_doubles wsX0_doubles rmX0_doubles 0 := ⟨gX7_count_X0_doubles, ⟨_, _, _, _, rfl, by decide⟩, by decide +kernel, rfl, rfl, by decide⟩
theorem kX7_count_X2_applesBelow : jKv mX7_count 217 yX2_applesBelow wsX2_applesBelow rmX2_applesBelow 1 := ⟨gX7_count_X2_applesBelow, ⟨_, _, _, _, rfl, by decide⟩, by decide +kernel, rfl, rfl, by decide⟩
theorem kX7_count_X5_wrongInAll : jKv mX7_count 220 yX5_wrongInAll wsX5_wrongInAll rmX5_wrongInAll 0 := ⟨gX7_count_X5_wrongInAll, ⟨_, _, _, _, rfl, by decide⟩, by decide +kernel, rfl, rfl, by decide⟩
theorem kX7_count_X5_settingShown : jKv mX7_count 113 yX5_settingShown wsX5_settingShown rmX5_settingShown 1 := ⟨gX7_count_X5_settingShown, ⟨_, _, _, _, rfl, by decide⟩, by decide +kernel, rfl, rfl, by decide⟩
set_option maxRecDepth 20000 in
theorem in_X7_count_X4 : ∀ x ∈ u_ws RX4 TX4 8, x ∈ wsX7_count := by decide +kernel
set_option maxRecDepth 20000 in
theorem in_X7_count_X3 : ∀ x ∈ u_ws RX3 TX3 3, x ∈ wsX7_count := by decide +kernel
set_option maxRecDepth 100000 in
set_option maxHeartbeats 4000000 in
theorem c_X7_count (E : jE) (ad qh : Nat → Nat → Nat) (S H : Nat → Nat → Int → Int) (P : Nat → Int → Int) (v : Int → Int) (w : Int) (hc0 : cOK S H P v) (wb : -2147483648 ≤ w ∧ w < 2147483648) : jMI E yX7_count wsX7_count rmX7_count [.ref (ad 7 0), .int (jI w)] (wEye E ad qh S H P v) (mCount (S 0) v w) (wEye E ad qh S H P v) := by
  refine jMI_of (cc := cX7_count) (maxL := 2) (ret := (some .int)) [(0, .ref (ad 7 0)), (1, .int (jI w))] (by decide) rfl rfl (Nat.le_of_ble_eq_true rfl) (fun C => ?_)
  show jG mX7_count E C (jQi E C (mCount (S 0) v w) (wEye E ad qh S H P v)) 0 0 0 [(0, .ref (ad 7 0)), (1, .int (jI w))] [] (wEye E ad qh S H P v)
  obtain ⟨okS, okH, rv1, rv2, rv0, rv3, rP0⟩ := hc0
  have hx := okS 0
  have r0 : ∀ i, 0 ≤ S 0 0 i ∧ S 0 0 i < 404000 := hx 0
  have r1 : ∀ i, 0 ≤ S 0 1 i ∧ S 0 1 i ≤ 3 := hx 1
  have r2 : ∀ i, 0 ≤ S 0 2 i ∧ S 0 2 i ≤ 2 := hx 2
  have r3 : ∀ i, -1 ≤ S 0 3 i ∧ S 0 3 i ≤ 4 := hx 3
  have r4 : ∀ i, 0 ≤ S 0 4 i ∧ S 0 4 i < 404000 := hx 4
  have r5 : ∀ i, 0 ≤ S 0 5 i ∧ S 0 5 i ≤ 512 ∧ (i < 4 → S 0 5 i ≤ 20) := hx 5
  have r6 : ∀ i, 0 ≤ S 0 6 i ∧ S 0 6 i < 404000 := hx 6
  have r7 : (-20 ≤ S 0 7 0 ∧ S 0 7 0 ≤ 20) ∧ (0 ≤ S 0 7 1 ∧ S 0 7 1 ≤ 9) ∧ (1 ≤ S 0 7 2 ∧ S 0 7 2 ≤ 20) := hx 7
  have r8 : ∀ i, S 0 8 i = 0 ∨ S 0 8 i = 1 := hx 8
  have r9 : 0 ≤ S 0 9 0 ∧ S 0 9 0 ≤ 8 := hx 9
  have r20 := r2 0
  refine j_iload_n 1 1 dX7_count_0 rfl rfl ?_
  rcases (show w = 0 ∨ w = 1 ∨ w = 2 ∨ w = 3 ∨ w = 4 ∨ w = 5 ∨ w = 6 ∨ w = 7 ∨ w = 8 ∨ w = 9 ∨ w = 10 ∨ w = 11 ∨ w = 12 ∨ w = 13 ∨ w = 14 ∨ w = 15 ∨ (w < 0 ∨ 15 < w) by omega) with hc | hc | hc | hc | hc | hc | hc | hc | hc | hc | hc | hc | hc | hc | hc | hc | hc
  · skip
    have e : mCount (S 0) v w = S 0 9 0 := by unfold mCount; rw [if_pos (by omega)]
    rw [e]
    refine j_tabIn 0 80 hc dX7_count_1 (by decide) rfl (by decide) ?_
    refine j_aload_n 0 81 dX7_count_80 rfl rfl ?_
    refine j_getB 0 0 0 1 84 in_X7_count_X7 dX7_count_81 rfl rfl rfl rfl (by decide) rfl rfl ?_
    refine j_getB 3 0 0 2 87 in_X7_count_X5 dX7_count_84 rfl rfl rfl rfl (by decide) rfl rfl ?_
    refine j_getB 3 1 2 3 90 in_X7_count_X1 dX7_count_87 rfl rfl rfl rfl (by decide) rfl rfl ?_
    exact j_iret dX7_count_90 rfl (by first | rfl | (exfalso; omega)) (by rfl)
  · skip
    have e : mCount (S 0) v w = S 0 9 1 := by unfold mCount; rw [if_neg (by omega), if_pos (by omega)]
    rw [e]
    refine j_tabIn 1 91 hc dX7_count_1 (by decide) rfl (by decide) ?_
    refine j_aload_n 0 92 dX7_count_91 rfl rfl ?_
    refine j_getB 0 0 0 1 95 in_X7_count_X7 dX7_count_92 rfl rfl rfl rfl (by decide) rfl rfl ?_
    refine j_getB 3 0 5 4 98 in_X7_count_X5 dX7_count_95 rfl rfl rfl rfl (by decide) rfl rfl ?_
    exact j_iret dX7_count_98 rfl (by first | rfl | (exfalso; omega)) (by rfl)
  · skip
    have e : mCount (S 0) v w = jSum (S 0 2) 12 := by unfold mCount; rw [if_neg (by omega), if_neg (by omega), if_pos (by omega)]
    rw [e]
    refine j_tabIn 2 99 hc dX7_count_1 (by decide) rfl (by decide) ?_
    refine j_aload_n 0 100 dX7_count_99 rfl rfl ?_
    refine j_getB 0 0 0 1 103 in_X7_count_X7 dX7_count_100 rfl rfl rfl rfl (by decide) rfl rfl ?_
    refine j_getB 3 0 1 5 106 in_X7_count_X5 dX7_count_103 rfl rfl rfl rfl (by decide) rfl rfl ?_
    refine j_callViP 3 4 [4, 5, 6, 7] 109 [_, _, _, _, _, _, _, _, _, _, _, _, _] [_, _, _, _, _, _, _, _, _, _] (c_X0_apples E _ _ _ _ _ _ _ ) rfl kX7_count_X0_apples rfl rfl rfl rfl rfl rfl rfl rfl rfl (Nat.le_of_ble_eq_true rfl) (by decide) dX7_count_106 rfl ?_
    exact j_iret dX7_count_109 rfl (by first | rfl | (exfalso; omega)) (by rfl)
  · skip
    have e : mCount (S 0) v w = jSum (fun i => if S 0 2 i = 2 then 1 else 0) 12 := by unfold mCount; rw [if_neg (by omega), if_neg (by omega), if_neg (by omega), if_pos (by omega)]
    rw [e]
    refine j_tabIn 3 110 hc dX7_count_1 (by decide) rfl (by decide) ?_
    refine j_aload_n 0 111 dX7_count_110 rfl rfl ?_
    refine j_getB 0 0 0 1 114 in_X7_count_X7 dX7_count_111 rfl rfl rfl rfl (by decide) rfl rfl ?_
    refine j_getB 3 0 1 5 117 in_X7_count_X5 dX7_count_114 rfl rfl rfl rfl (by decide) rfl rfl ?_
    refine j_callViP 3 4 [4, 5, 6, 7] 120 [_, _, _, _, _, _, _, _, _, _, _, _, _] [_, _, _, _, _, _, _, _, _, _] (c_X0_doubles E _ _ _ _ _ _ _ (by exact r2)) rfl kX7_count_X0_doubles rfl rfl rfl rfl rfl rfl rfl rfl rfl (Nat.le_of_ble_eq_true rfl) (by decide) dX7_count_117 rfl ?_
    exact j_iret dX7_count_120 rfl (by first | rfl | (exfalso; omega)) (by rfl)
  · skip
    have e : mCount (S 0) v w = jSum (S 0 5) 5 := by unfold mCount; rw [if_neg (by omega), if_neg (by omega), if_neg (by omega), if_neg (by omega), if_pos (by omega)]
    rw [e]
    refine j_tabIn 4 121 hc dX7_count_1 (by decide) rfl (by decide) ?_
    refine j_aload_n 0 122 dX7_count_121 rfl rfl ?_
    refine j_getB 0 0 0 1 125 in_X7_count_X7 dX7_count_122 rfl rfl rfl rfl (by decide) rfl rfl ?_
    refine j_getB 3 0 2 6 128 in_X7_count_X5 dX7_count_125 rfl rfl rfl rfl (by decide) rfl rfl ?_
    refine j_iconst 129 dX7_count_128 rfl ?_
    refine j_callViP 3 8 [8, 9, 10] 132 [_, _, _, _, _, _, _, _, _, _, _, _, _] [_, _, _, _, _, _, _, _, _, _] (c_X2_applesBelow E _ _ _ _ _ 5 (by omega)) rfl kX7_count_X2_applesBelow rfl rfl rfl rfl rfl rfl rfl rfl rfl (Nat.le_of_ble_eq_true rfl) (by decide) dX7_count_129 rfl ?_
    exact j_iret dX7_count_132 rfl (by first | rfl | (exfalso; omega)) (by rfl)
  · skip
    have e : mCount (S 0) v w = sWa (S 0) := by unfold mCount; rw [if_neg (by omega), if_neg (by omega), if_neg (by omega), if_neg (by omega), if_neg (by omega), if_pos (by omega)]
    rw [e]
    refine j_tabIn 5 133 hc dX7_count_1 (by decide) rfl (by decide) ?_
    refine j_aload_n 0 134 dX7_count_133 rfl rfl ?_
    refine j_getB 0 0 0 1 137 in_X7_count_X7 dX7_count_134 rfl rfl rfl rfl (by decide) rfl rfl ?_
    refine j_callViB (wcs := [_]) (cs := [_]) 3 0 [3] 140 [_, _, _, _, _, _, _, _, _, _] (c_X5_wrongInAll E _ _ (by exact hx)) rfl rfl rfl kX7_count_X5_wrongInAll rfl rfl rfl rfl rfl rfl rfl (Nat.le_of_ble_eq_true rfl) (by decide) dX7_count_137 rfl ?_
    exact j_iret dX7_count_140 rfl (by first | rfl | (exfalso; omega)) (by rfl)
  · skip
    have e : mCount (S 0) v w = S 0 9 2 := by unfold mCount; rw [if_neg (by omega), if_neg (by omega), if_neg (by omega), if_neg (by omega), if_neg (by omega), if_neg (by omega), if_pos (by omega)]
    rw [e]
    refine j_tabIn 6 141 hc dX7_count_1 (by decide) rfl (by decide) ?_
    refine j_aload_n 0 142 dX7_count_141 rfl rfl ?_
    refine j_getB 0 0 0 1 145 in_X7_count_X7 dX7_count_142 rfl rfl rfl rfl (by decide) rfl rfl ?_
    refine j_getB 3 0 6 7 148 in_X7_count_X5 dX7_count_145 rfl rfl rfl rfl (by decide) rfl rfl ?_
    exact j_iret dX7_count_148 rfl (by first | rfl | (exfalso; omega)) (by rfl)
  · skip
    have e : mCount (S 0) v w = S 0 9 3 := by unfold mCount; rw [if_neg (by omega), if_neg (by omega), if_neg (by omega), if_neg (by omega), if_neg (by omega), if_neg (by omega), if_neg (by omega), if_pos (by omega)]
    rw [e]
    refine j_tabIn 7 149 hc dX7_count_1 (by decide) rfl (by decide) ?_
    refine j_aload_n 0 150 dX7_count_149 rfl rfl ?_
    refine j_getB 0 0 0 1 153 in_X7_count_X7 dX7_count_150 rfl rfl rfl rfl (by decide) rfl rfl ?_
    refine j_getB 3 0 7 8 156 in_X7_count_X5 dX7_count_153 rfl rfl rfl rfl (by decide) rfl rfl ?_
    exact j_iret dX7_count_156 rfl (by first | rfl | (exfalso; omega)) (by rfl)
  · skip
    have e : mCount (S 0) v w = S 0 9 4 := by unfold mCount; rw [if_neg (by omega), if_neg (by omega), if_neg (by omega), if_neg (by omega), if_neg (by omega), if_neg (by omega), if_neg (by omega), if_neg (by omega), if_pos (by omega)]
    rw [e]
    refine j_tabIn 8 157 hc dX7_count_1 (by decide) rfl (by decide) ?_
    refine j_aload_n 0 158 dX7_count_157 rfl rfl ?_
    refine j_getB 0 0 0 1 161 in_X7_count_X7 dX7_count_158 rfl rfl rfl rfl (by decide) rfl rfl ?_
    refine j_getB 3 0 8 9 164 in_X7_count_X5 dX7_count_161 rfl rfl rfl rfl (by decide) rfl rfl ?_
    exact j_iret dX7_count_164 rfl (by first | rfl | (exfalso; omega)) (by rfl)
  · skip
    have e : mCount (S 0) v w = S 0 9 5 := by unfold mCount; rw [if_neg (by omega), if_neg (by omega), if_neg (by omega), if_neg (by omega), if_neg (by omega), if_neg (by omega), if_neg (by omega), if_neg (by omega), if_neg (by omega), if_pos (by omega)]
    rw [e]
    refine j_tabIn 9 165 hc dX7_count_1 (by decide) rfl (by decide) ?_
    refine j_aload_n 0 166 dX7_count_165 rfl rfl ?_
    refine j_getB 0 0 0 1 169 in_X7_count_X7 dX7_count_166 rfl rfl rfl rfl (by decide) rfl rfl ?_
    refine j_getB 3 0 9 10 172 in_X7_count_X5 dX7_count_169 rfl rfl rfl rfl (by decide) rfl rfl ?_
    exact j_iret dX7_count_172 rfl (by first | rfl | (exfalso; omega)) (by rfl)
  · skip
    have e : mCount (S 0) v w = S 0 9 6 := by unfold mCount; rw [if_neg (by omega), if_neg (by omega), if_neg (by omega), if_neg (by omega), if_neg (by omega), if_neg (by omega), if_neg (by omega), if_neg (by omega), if_neg (by omega), if_neg (by omega), if_pos (by omega)]
    rw [e]
    refine j_tabIn 10 173 hc dX7_count_1 (by decide) rfl (by decide) ?_
    refine j_aload_n 0 174 dX7_count_173 rfl rfl ?_
    refine j_getB 0 0 0 1 177 in_X7_count_X7 dX7_count_174 rfl rfl rfl rfl (by decide) rfl rfl ?_
    refine j_getB 3 0 10 11 180 in_X7_count_X5 dX7_count_177 rfl rfl rfl rfl (by decide) rfl rfl ?_
    exact j_iret dX7_count_180 rfl (by first | rfl | (exfalso; omega)) (by rfl)
  · skip
    have e : mCount (S 0) v w = S 0 7 0 + 20 := by unfold mCount; rw [if_neg (by omega), if_neg (by omega), if_neg (by omega), if_neg (by omega), if_neg (by omega), if_neg (by omega), if_neg (by omega), if_neg (by omega), if_neg (by omega), if_neg (by omega), if_neg (by omega), if_pos (by omega)]
    rw [e]
    refine j_tabIn 11 181 hc dX7_count_1 (by decide) rfl (by decide) ?_
    refine j_aload_n 0 182 dX7_count_181 rfl rfl ?_
    refine j_getB 0 0 0 1 185 in_X7_count_X7 dX7_count_182 rfl rfl rfl rfl (by decide) rfl rfl ?_
    refine j_iconst 186 dX7_count_185 rfl ?_
    refine j_callViB (wcs := [_]) (cs := [_]) 3 0 [3] 189 [_, _, _, _, _, _, _, _, _, _] (c_X5_settingShown E _ _ _ (by exact hx) (by omega)) rfl rfl rfl kX7_count_X5_settingShown rfl rfl rfl rfl rfl rfl rfl (Nat.le_of_ble_eq_true rfl) (by decide) dX7_count_186 rfl ?_
    exact j_iret dX7_count_189 rfl (by first | rfl | (exfalso; omega)) (by rfl)
  · skip
    have e : mCount (S 0) v w = S 0 7 1 := by unfold mCount; rw [if_neg (by omega), if_neg (by omega), if_neg (by omega), if_neg (by omega), if_neg (by omega), if_neg (by omega), if_neg (by omega), if_neg (by omega), if_neg (by omega), if_neg (by omega), if_neg (by omega), if_neg (by omega), if_pos (by omega)]
    rw [e]
    refine j_tabIn 12 190 hc dX7_count_1 (by decide) rfl (by decide) ?_
    refine j_aload_n 0 191 dX7_count_190 rfl rfl ?_
    refine j_getB 0 0 0 1 194 in_X7_count_X7 dX7_count_191 rfl rfl rfl rfl (by decide) rfl rfl ?_
    refine j_iconst 195 dX7_count_194 rfl ?_
    refine j_callViB (wcs := [_]) (cs := [_]) 3 0 [3] 198 [_, _, _, _, _, _, _, _, _, _] (c_X5_settingShown E _ _ _ (by exact hx) (by omega)) rfl rfl rfl kX7_count_X5_settingShown rfl rfl rfl rfl rfl rfl rfl (Nat.le_of_ble_eq_true rfl) (by decide) dX7_count_195 rfl ?_
    exact j_iret dX7_count_198 rfl (by first | rfl | (exfalso; omega)) (by rfl)
  · skip
    have e : mCount (S 0) v w = S 0 7 2 := by unfold mCount; rw [if_neg (by omega), if_neg (by omega), if_neg (by omega), if_neg (by omega), if_neg (by omega), if_neg (by omega), if_neg (by omega), if_neg (by omega), if_neg (by omega), if_neg (by omega), if_neg (by omega), if_neg (by omega), if_neg (by omega), if_pos (by omega)]
    rw [e]
    refine j_tabIn 13 199 hc dX7_count_1 (by decide) rfl (by decide) ?_
    refine j_aload_n 0 200 dX7_count_199 rfl rfl ?_
    refine j_getB 0 0 0 1 203 in_X7_count_X7 dX7_count_200 rfl rfl rfl rfl (by decide) rfl rfl ?_
    refine j_iconst 204 dX7_count_203 rfl ?_
    refine j_callViB (wcs := [_]) (cs := [_]) 3 0 [3] 207 [_, _, _, _, _, _, _, _, _, _] (c_X5_settingShown E _ _ _ (by exact hx) (by omega)) rfl rfl rfl kX7_count_X5_settingShown rfl rfl rfl rfl rfl rfl rfl (Nat.le_of_ble_eq_true rfl) (by decide) dX7_count_204 rfl ?_
    exact j_iret dX7_count_207 rfl (by first | rfl | (exfalso; omega)) (by rfl)
  · skip
    have e : mCount (S 0) v w = v 3 := by unfold mCount; rw [if_neg (by omega), if_neg (by omega), if_neg (by omega), if_neg (by omega), if_neg (by omega), if_neg (by omega), if_neg (by omega), if_neg (by omega), if_neg (by omega), if_neg (by omega), if_neg (by omega), if_neg (by omega), if_neg (by omega), if_neg (by omega), if_pos (by omega)]
    rw [e]
    refine j_tabIn 14 208 hc dX7_count_1 (by decide) rfl (by decide) ?_
    refine j_aload_n 0 209 dX7_count_208 rfl rfl ?_
    refine j_getB 0 0 4 12 212 in_X7_count_X7 dX7_count_209 rfl rfl rfl rfl (by decide) rfl rfl ?_
    refine j_getNB 1 0 3 6 215 in_X7_count_X4 dX7_count_212 rfl rfl rfl rfl (by decide) rfl rfl ?_
    exact j_iret dX7_count_215 rfl (by first | rfl | (exfalso; omega)) (by rfl)
  · skip
    have e : mCount (S 0) v w = v 2 := by unfold mCount; rw [if_neg (by omega), if_neg (by omega), if_neg (by omega), if_neg (by omega), if_neg (by omega), if_neg (by omega), if_neg (by omega), if_neg (by omega), if_neg (by omega), if_neg (by omega), if_neg (by omega), if_neg (by omega), if_neg (by omega), if_neg (by omega), if_neg (by omega), if_pos (by omega)]
    rw [e]
    refine j_tabIn 15 216 hc dX7_count_1 (by decide) rfl (by decide) ?_
    refine j_aload_n 0 217 dX7_count_216 rfl rfl ?_
    refine j_getB 0 0 3 13 220 in_X7_count_X7 dX7_count_217 rfl rfl rfl rfl (by decide) rfl rfl ?_
    refine j_getNB 2 0 2 5 223 in_X7_count_X3 dX7_count_220 rfl rfl rfl rfl (by decide) rfl rfl ?_
    exact j_iret dX7_count_223 rfl (by first | rfl | (exfalso; omega)) (by rfl)
  · skip
    have e : mCount (S 0) v w = -1 := by unfold mCount; rw [if_neg (by omega), if_neg (by omega), if_neg (by omega), if_neg (by omega), if_neg (by omega), if_neg (by omega), if_neg (by omega), if_neg (by omega), if_neg (by omega), if_neg (by omega), if_neg (by omega), if_neg (by omega), if_neg (by omega), if_neg (by omega), if_neg (by omega), if_neg (by omega)]
    rw [e]
    refine j_tabOut 224 dX7_count_1 (by omega) hc (by decide) ?_
    refine j_iconst 225 dX7_count_224 rfl ?_
    exact j_iret dX7_count_225 rfl (by first | rfl | (exfalso; omega)) (by rfl)
