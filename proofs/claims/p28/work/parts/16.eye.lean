abbrev wEye (E : jE) (ad qh : Nat → Nat → Nat) (S H : Nat → Nat → Int → Int) (P : Nat → Int → Int) (v : Int → Int) : va_W := jFl [[(ad 7 0, .inr (6, [.ref (ad 0 0), .ref (ad 1 0), .ref (ad 2 0), .ref (ad 7 1), .ref (ad 7 3), .int (jI (v 0))]))], wPad E (ad 7 3) (ad 7 4) (ad 7 5) (ad 7 6) (P 0) (P 1) (P 2) (v 3) (v 4) (v 5) (v 6) (v 7), wHh E (ad 7 1) (ad 7 2) qh (v 1) (v 2), wState E (ad 0) (S 0), wState E (ad 1) (S 1), wState E (ad 2) (S 2), wState E (qh 0) (H 0), wState E (qh 1) (H 1), wState E (qh 2) (H 2), wState E (qh 3) (H 3)]
abbrev wEyeC (E : jE) (ad qh : Nat → Nat → Nat) (c : cSt) : va_W := wEye E ad qh c.1 c.2.1 c.2.2.1 c.2.2.2
def cOK (S H : Nat → Nat → Int → Int) (P : Nat → Int → Int) (v : Int → Int) : Prop := (∀ k, sOK (S k)) ∧ (∀ k, sOK (H k)) ∧ (0 ≤ v 1 ∧ v 1 < 4) ∧ (0 ≤ v 2 ∧ v 2 ≤ 4) ∧ (v 0 = 0 ∨ v 0 = 1) ∧ (0 ≤ v 3 ∧ v 3 ≤ 60) ∧ ∀ i, 0 ≤ P 0 i ∧ P 0 i < 1000
/-- what keep makes of the past, and of the numbers -/
def kH (S H : Nat → Nat → Int → Int) (v : Int → Int) : Nat → Nat → Int → Int := cU H (hI (v 1) (v 2)) (sCp (S 0) (H (hI (v 1) (v 2))))
def kV (v : Int → Int) : Int → Int := jU (jU v 1 (hO (v 1) (v 2))) 2 (hM (v 2) + 1)
def sRule (x : Nat → Int → Int) (p t l : Int) : Nat → Int → Int := jS (jS (jS x 0 (rIns (x 0) p (x 9 0) t)) 1 (rIns (x 1) p (x 9 0) l)) 9 (jU (x 9) 0 (x 9 0 + 1))
def sOut (x : Nat → Int → Int) (r : Int) : Nat → Int → Int := jS (jS (jS x 0 (rOut (x 0) r (x 9 0))) 1 (rOut (x 1) r (x 9 0))) 9 (jU (x 9) 0 (x 9 0 - 1))
def mLay (S H : Nat → Nat → Int → Int) (P : Nat → Int → Int) (v : Int → Int) (a r b : Int) : Int × cSt := if tIn a r b = 0 then (-1, S, H, P, v) else if 2 ≤ S 0 2 0 then (-3, S, H, P, v) else (S 0 2 0 + 1, cU S 0 (sLay (S 0) (tOf a r b)), kH S H v, P, kV v)
def mPass (S H : Nat → Nat → Int → Int) (P : Nat → Int → Int) (v : Int → Int) (t : Int) : Int × cSt := if t < 1 ∨ 30 < t then (-1, S, H, P, v) else ((sPass (S 0) t.toNat).2, cU S 0 (sPass (S 0) t.toNat).1, kH S H v, P, kV v)
def mRule (S H : Nat → Nat → Int → Int) (P : Nat → Int → Int) (v : Int → Int) (p a r b l : Int) : Int × cSt := if p < 0 ∨ S 0 9 0 < p ∨ tIn a r b = 0 ∨ l < 0 ∨ 4 ≤ l then (-1, S, H, P, v) else if 8 ≤ S 0 9 0 then (-3, S, H, P, v) else (S 0 9 0 + 1, cU S 0 (sRule (S 0) p (tOf a r b) l), kH S H v, P, kV v)
def mDrop (S H : Nat → Nat → Int → Int) (P : Nat → Int → Int) (v : Int → Int) (r : Int) : Int × cSt := if 0 ≤ r ∧ r < S 0 9 0 then (S 0 9 0 - 1, cU S 0 (sOut (S 0) r), kH S H v, P, kV v) else (-1, S, H, P, v)
def mWater (S H : Nat → Nat → Int → Int) (P : Nat → Int → Int) (v : Int → Int) (l : Int) : Int × cSt := if 0 ≤ l ∧ l < 4 then (1 - S 0 8 l, cU S 0 (jS (S 0) 8 (jU (S 0 8) l (1 - S 0 8 l))), kH S H v, P, kV v) else (-1, S, H, P, v)
def mEmpty (S H : Nat → Nat → Int → Int) (P : Nat → Int → Int) (v : Int → Int) (l : Int) : Int × cSt := if 0 ≤ l ∧ l ≤ 4 then (S 0 5 l, cU S 0 (sEmpty (S 0) l), kH S H v, P, kV v) else (-1, S, H, P, v)
def mAppend (S H : Nat → Nat → Int → Int) (P : Nat → Int → Int) (v : Int → Int) (s : Int) : Int × cSt := if s < 33 ∨ 126 < s then (-1, S, H, P, v) else if 60 ≤ v 3 then (-3, S, H, P, v) else (v 3 + 1, S, H, jS P 0 (jU (P 0) (v 3) s), jU v 3 (v 3 + 1))
def mUndo (S H : Nat → Nat → Int → Int) (P : Nat → Int → Int) (v : Int → Int) : Int × cSt := if v 2 ≤ 0 then (-2, S, H, P, v) else (v 2 - 1, cU S 0 (sCp (H (gI (v 1) (v 2))) (S 0)), H, P, jU v 2 (v 2 - 1))
def mRestore (S H : Nat → Nat → Int → Int) (P : Nat → Int → Int) (v : Int → Int) : Int × cSt := if v 0 = 0 then (-2, S, H, P, v) else (jSum (S 1 2) 12, cU S 0 (sCp (S 1) (S 0)), kH S H v, P, kV v)
set_option maxRecDepth 100000 in
set_option maxHeartbeats 4000000 in
theorem c_X7_isLane (E : jE) (l : Int) (lb : -2147483648 ≤ l ∧ l < 2147483648) : jMI E yX7_isLane wsX7_isLane rmX7_isLane [.int (jI l)] ([]) (if 0 ≤ l ∧ l < 4 then 1 else 0) ([]) := by
  refine jMI_of (cc := cX7_isLane) (maxL := 1) (ret := (some .boolean)) [(0, .int (jI l))] (by decide) rfl rfl (Nat.le_of_ble_eq_true rfl) (fun C => ?_)
  show jG mX7_isLane E C (jQi E C (if 0 ≤ l ∧ l < 4 then 1 else 0) ([])) 0 0 0 [(0, .int (jI l))] [] ([])
  refine j_iload_n 0 1 dX7_isLane_0 rfl rfl ?_
  refine j_if_lt 13 4 dX7_isLane_1 rfl (by decide) (by omega) (fun h_1 => ?_) (fun h_1 => ?_)
  · skip
    refine j_iconst 14 dX7_isLane_13 rfl ?_
    exact j_zret dX7_isLane_14 rfl (by split <;> omega) (by decide) (by rfl)
  · skip
    refine j_iload_n 0 5 dX7_isLane_4 rfl rfl ?_
    refine j_iconst 6 dX7_isLane_5 rfl ?_
    refine j_icmp_ge 13 9 dX7_isLane_6 rfl (by decide) (by omega) (by omega) (fun h_6 => ?_) (fun h_6 => ?_)
    · skip
      refine j_iconst 14 dX7_isLane_13 rfl ?_
      exact j_zret dX7_isLane_14 rfl (by split <;> omega) (by decide) (by rfl)
    · skip
      refine j_iconst 10 dX7_isLane_9 rfl ?_
      refine j_goto 14 dX7_isLane_10 (by decide) ?_
      exact j_zret dX7_isLane_14 rfl (by split <;> omega) (by decide) (by rfl)
set_option maxRecDepth 100000 in
set_option maxHeartbeats 4000000 in
theorem c_X7_isBox (E : jE) (l : Int) (lb : -2147483648 ≤ l ∧ l < 2147483648) : jMI E yX7_isBox wsX7_isBox rmX7_isBox [.int (jI l)] ([]) (if 0 ≤ l ∧ l ≤ 4 then 1 else 0) ([]) := by
  refine jMI_of (cc := cX7_isBox) (maxL := 1) (ret := (some .boolean)) [(0, .int (jI l))] (by decide) rfl rfl (Nat.le_of_ble_eq_true rfl) (fun C => ?_)
  show jG mX7_isBox E C (jQi E C (if 0 ≤ l ∧ l ≤ 4 then 1 else 0) ([])) 0 0 0 [(0, .int (jI l))] [] ([])
  refine j_iload_n 0 1 dX7_isBox_0 rfl rfl ?_
  refine j_if_lt 13 4 dX7_isBox_1 rfl (by decide) (by omega) (fun h_1 => ?_) (fun h_1 => ?_)
  · skip
    refine j_iconst 14 dX7_isBox_13 rfl ?_
    exact j_zret dX7_isBox_14 rfl (by split <;> omega) (by decide) (by rfl)
  · skip
    refine j_iload_n 0 5 dX7_isBox_4 rfl rfl ?_
    refine j_iconst 6 dX7_isBox_5 rfl ?_
    refine j_icmp_gt 13 9 dX7_isBox_6 rfl (by decide) (by omega) (by omega) (fun h_6 => ?_) (fun h_6 => ?_)
    · skip
      refine j_iconst 14 dX7_isBox_13 rfl ?_
      exact j_zret dX7_isBox_14 rfl (by split <;> omega) (by decide) (by rfl)
    · skip
      refine j_iconst 10 dX7_isBox_9 rfl ?_
      refine j_goto 14 dX7_isBox_10 (by decide) ?_
      exact j_zret dX7_isBox_14 rfl (by split <;> omega) (by decide) (by rfl)
theorem kX7_lay_X6_inRange : jKs mX7_lay 40 yX6_inRange wsX6_inRange rmX6_inRange 3 := ⟨gX7_lay_X6_inRange, ⟨_, _, _, _, rfl, by decide⟩, by decide +kernel, rfl, rfl, by decide⟩
set_option maxRecDepth 20000 in
theorem in_X7_lay_X7 : ∀ x ∈ u_ws RX7 TX7 6, x ∈ wsX7_lay := by decide +kernel
set_option maxRecDepth 20000 in
theorem in_X7_lay_X5 : ∀ x ∈ u_ws RX5 TX5 11, x ∈ wsX7_lay := by decide +kernel
set_option maxRecDepth 20000 in
theorem in_X7_lay_X0 : ∀ x ∈ u_ws RX0 TX0 3, x ∈ wsX7_lay := by decide +kernel
theorem kX7_lay_X3_keep : jKv mX7_lay 56 yX3_keep wsX3_keep rmX3_keep 1 := ⟨gX7_lay_X3_keep, ⟨_, _, _, _, rfl, by decide⟩, by decide +kernel, rfl, rfl, by decide⟩
theorem kX7_lay_X6_of : jKs mX7_lay 60 yX6_of wsX6_of rmX6_of 3 := ⟨gX7_lay_X6_of, ⟨_, _, _, _, rfl, by decide⟩, by decide +kernel, rfl, rfl, by decide⟩
theorem kX7_lay_X5_layApple : jKv mX7_lay 64 yX5_layApple wsX5_layApple rmX5_layApple 1 := ⟨gX7_lay_X5_layApple, ⟨_, _, _, _, rfl, by decide⟩, by decide +kernel, rfl, rfl, by decide⟩
set_option maxRecDepth 100000 in
set_option maxHeartbeats 4000000 in
theorem c_X7_lay (E : jE) (ad qh : Nat → Nat → Nat) (S H : Nat → Nat → Int → Int) (P : Nat → Int → Int) (v : Int → Int) (a r b : Int) (hc0 : cOK S H P v) (ab : -2147483648 ≤ a ∧ a < 2147483648) (rb : -2147483648 ≤ r ∧ r < 2147483648) (bb : -2147483648 ≤ b ∧ b < 2147483648) : jMI E yX7_lay wsX7_lay rmX7_lay [.ref (ad 7 0), .int (jI a), .int (jI r), .int (jI b)] (wEye E ad qh S H P v) ((mLay S H P v a r b).1) (wEyeC E ad qh (mLay S H P v a r b).2) := by
  refine jMI_of (cc := cX7_lay) (maxL := 4) (ret := (some .int)) [(0, .ref (ad 7 0)), (1, .int (jI a)), (2, .int (jI r)), (3, .int (jI b))] (by decide) rfl rfl (Nat.le_of_ble_eq_true rfl) (fun C => ?_)
  show jG mX7_lay E C (jQi E C ((mLay S H P v a r b).1) (wEyeC E ad qh (mLay S H P v a r b).2)) 0 0 0 [(0, .ref (ad 7 0)), (1, .int (jI a)), (2, .int (jI r)), (3, .int (jI b))] [] (wEye E ad qh S H P v)
  obtain ⟨okS, okH, rv1, rv2, rv0, rv3, rP0⟩ := hc0
  have hx := okS 0
  have r0 : ∀ i, 0 ≤ S 0 0 i ∧ S 0 0 i < 404000 := hx 0
  have r1 : ∀ i, 0 ≤ S 0 1 i ∧ S 0 1 i ≤ 3 := hx 1
  have r2 : ∀ i, 0 ≤ S 0 2 i ∧ S 0 2 i ≤ 2 := hx 2
  have r3 : ∀ i, -1 ≤ S 0 3 i ∧ S 0 3 i ≤ 4 := hx 3
  have r4 : ∀ i, 0 ≤ S 0 4 i ∧ S 0 4 i < 404000 := hx 4
  have r5 : ∀ i, 0 ≤ S 0 5 i ∧ S 0 5 i ≤ 512 ∧ (i < 4 → S 0 5 i ≤ 20) := hx 5
  have r6 : ∀ i, 0 ≤ S 0 6 i ∧ S 0 6 i < 404000 := hx 6
  have r7 : (-20 ≤ S 0 7 0 ∧ S 0 7 0 ≤ 20) ∧ (0 ≤ S 0 7 1 ∧ S 0 7 1 ≤ 9) ∧ (1 ≤ S 0 7 2 ∧ S 0 7 2 ≤ 20) := hx 7
  have r8 : ∀ i, S 0 8 i = 0 ∨ S 0 8 i = 1 := hx 8
  have r9 : 0 ≤ S 0 9 0 ∧ S 0 9 0 ≤ 8 := hx 9
  have r20 := r2 0
  refine j_iload_n 1 1 dX7_lay_0 rfl rfl ?_
  refine j_iload_n 2 2 dX7_lay_1 rfl rfl ?_
  refine j_iload_n 3 3 dX7_lay_2 rfl rfl ?_
  refine j_callSiB (wcs := []) (cs := []) [] 6 [_, _, _, _, _, _, _, _, _, _] (c_X6_inRange E _ _ _ (by omega) (by omega) (by omega)) rfl rfl rfl kX7_lay_X6_inRange rfl rfl rfl rfl (Nat.le_of_ble_eq_true rfl) (by decide) dX7_lay_3 rfl ?_
  have tt : tIn a r b = 0 ∨ tIn a r b = 1 := by unfold tIn; split <;> omega
  refine j_if_ne 11 9 dX7_lay_6 rfl (by decide) (by omega) (fun h_6 => ?_) (fun h_6 => ?_)
  · skip
    refine j_aload_n 0 12 dX7_lay_11 rfl rfl ?_
    refine j_getB 0 0 0 1 15 in_X7_lay_X7 dX7_lay_12 rfl rfl rfl rfl (by decide) rfl rfl ?_
    refine j_getB 3 0 1 2 18 in_X7_lay_X5 dX7_lay_15 rfl rfl rfl rfl (by decide) rfl rfl ?_
    refine j_getB 3 4 0 3 21 in_X7_lay_X0 dX7_lay_18 rfl rfl rfl rfl (by decide) rfl rfl ?_
    refine j_iconst 22 dX7_lay_21 rfl ?_
    refine j_ialdB 3 5 23 dX7_lay_22 rfl rfl rfl (by decide) (by omega) ?_
    refine j_iconst 24 dX7_lay_23 rfl ?_
    refine j_icmp_lt 30 27 dX7_lay_24 rfl (by decide) (by omega) (by omega) (fun h_24 => ?_) (fun h_24 => ?_)
    · skip
      have e : mLay S H P v a r b = (S 0 2 0 + 1, cU S 0 (sLay (S 0) (tOf a r b)), kH S H v, P, kV v) := by unfold mLay; rw [if_neg h_6, if_neg (by omega)]
      rw [e]
      refine j_aload_n 0 31 dX7_lay_30 rfl rfl ?_
      refine j_getB 0 0 3 4 34 in_X7_lay_X7 dX7_lay_31 rfl rfl rfl rfl (by decide) rfl rfl ?_
      refine j_aload_n 0 35 dX7_lay_34 rfl rfl ?_
      refine j_getB 0 0 0 1 38 in_X7_lay_X7 dX7_lay_35 rfl rfl rfl rfl (by decide) rfl rfl ?_
      refine j_callVvB (wcs := [_, _, _, _, _, _]) (cs := [_, _, _, _, _, _]) 2 0 [2, 6, 7, 8, 9, 3] 41 [_, _, _, _, _, _, _, _, _, _] (c_X3_keep E _ _ _ _ _ _ _ _ (by exact hx) (by omega) (by omega)) rfl rfl rfl kX7_lay_X3_keep rfl rfl rfl rfl rfl rfl rfl (Nat.le_of_ble_eq_true rfl) (by decide) dX7_lay_38 rfl ?_
      refine j_aload_n 0 42 dX7_lay_41 rfl rfl ?_
      refine j_getB 0 0 0 1 45 in_X7_lay_X7 dX7_lay_42 rfl rfl rfl rfl (by decide) rfl rfl ?_
      refine j_iload_n 1 46 dX7_lay_45 rfl rfl ?_
      refine j_iload_n 2 47 dX7_lay_46 rfl rfl ?_
      refine j_iload_n 3 48 dX7_lay_47 rfl rfl ?_
      refine j_callSiB (wcs := []) (cs := []) [] 51 [_, _, _, _, _, _, _, _, _, _] (c_X6_of E _ _ _ ) rfl rfl rfl kX7_lay_X6_of rfl rfl rfl rfl (Nat.le_of_ble_eq_true rfl) (by decide) dX7_lay_48 rfl ?_
      refine j_callVvB (wcs := [_]) (cs := [_]) 3 0 [3] 54 [_, _, _, _, _, _, _, _, _, _] (c_X5_layApple E _ _ _ (by exact hx) (by omega)) rfl rfl rfl kX7_lay_X5_layApple rfl rfl rfl rfl rfl rfl rfl (Nat.le_of_ble_eq_true rfl) (by decide) dX7_lay_51 rfl ?_
      refine j_aload_n 0 55 dX7_lay_54 rfl rfl ?_
      refine j_getB 0 0 0 1 58 in_X7_lay_X7 dX7_lay_55 rfl rfl rfl rfl (by decide) rfl rfl ?_
      refine j_getB 3 0 1 2 61 in_X7_lay_X5 dX7_lay_58 rfl rfl rfl rfl (by decide) rfl rfl ?_
      refine j_getB 3 4 0 3 64 in_X7_lay_X0 dX7_lay_61 rfl rfl rfl rfl (by decide) rfl rfl ?_
      refine j_iconst 65 dX7_lay_64 rfl ?_
      refine j_ialdB 3 5 66 dX7_lay_65 rfl rfl rfl (by decide) (by omega) ?_
      exact j_iret dX7_lay_66 rfl (by first | rfl | (exfalso; omega)) (by rfl)
    · skip
      have e : mLay S H P v a r b = (-3, S, H, P, v) := by unfold mLay; rw [if_neg h_6, if_pos (by omega)]
      rw [e]
      refine j_bipush 29 dX7_lay_27 rfl (by decide) ?_
      exact j_iret dX7_lay_29 rfl (by first | rfl | (exfalso; omega)) (by rfl)
  · skip
    have e : mLay S H P v a r b = (-1, S, H, P, v) := if_pos h_6
    rw [e]
    refine j_iconst 10 dX7_lay_9 rfl ?_
    exact j_iret dX7_lay_10 rfl (by first | rfl | (exfalso; omega)) (by rfl)
set_option maxRecDepth 20000 in
theorem in_X7_pass_X7 : ∀ x ∈ u_ws RX7 TX7 6, x ∈ wsX7_pass := by decide +kernel
theorem kX7_pass_X3_keep : jKv mX7_pass 56 yX3_keep wsX3_keep rmX3_keep 1 := ⟨gX7_pass_X3_keep, ⟨_, _, _, _, rfl, by decide⟩, by decide +kernel, rfl, rfl, by decide⟩
theorem kX7_pass_X5_tick : jKv mX7_pass 68 yX5_tick wsX5_tick rmX5_tick 0 := ⟨gX7_pass_X5_tick, ⟨_, _, _, _, rfl, by decide⟩, by decide +kernel, rfl, rfl, by decide⟩
set_option maxRecDepth 100000 in
set_option maxHeartbeats 4000000 in
theorem c_X7_pass (E : jE) (ad qh : Nat → Nat → Nat) (S H : Nat → Nat → Int → Int) (P : Nat → Int → Int) (v : Int → Int) (t : Int) (hc0 : cOK S H P v) (tb : -2147483648 ≤ t ∧ t < 2147483648) (hg : sInv (S 0) 512) : jMI E yX7_pass wsX7_pass rmX7_pass [.ref (ad 7 0), .int (jI t)] (wEye E ad qh S H P v) ((mPass S H P v t).1) (wEyeC E ad qh (mPass S H P v t).2) := by
  refine jMI_of (cc := cX7_pass) (maxL := 4) (ret := (some .int)) [(0, .ref (ad 7 0)), (1, .int (jI t))] (by decide) rfl rfl (Nat.le_of_ble_eq_true rfl) (fun C => ?_)
  show jG mX7_pass E C (jQi E C ((mPass S H P v t).1) (wEyeC E ad qh (mPass S H P v t).2)) 0 0 0 [(0, .ref (ad 7 0)), (1, .int (jI t))] [] (wEye E ad qh S H P v)
  obtain ⟨okS, okH, rv1, rv2, rv0, rv3, rP0⟩ := hc0
  have hx := okS 0
  have r0 : ∀ i, 0 ≤ S 0 0 i ∧ S 0 0 i < 404000 := hx 0
  have r1 : ∀ i, 0 ≤ S 0 1 i ∧ S 0 1 i ≤ 3 := hx 1
  have r2 : ∀ i, 0 ≤ S 0 2 i ∧ S 0 2 i ≤ 2 := hx 2
  have r3 : ∀ i, -1 ≤ S 0 3 i ∧ S 0 3 i ≤ 4 := hx 3
  have r4 : ∀ i, 0 ≤ S 0 4 i ∧ S 0 4 i < 404000 := hx 4
  have r5 : ∀ i, 0 ≤ S 0 5 i ∧ S 0 5 i ≤ 512 ∧ (i < 4 → S 0 5 i ≤ 20) := hx 5
  have r6 : ∀ i, 0 ≤ S 0 6 i ∧ S 0 6 i < 404000 := hx 6
  have r7 : (-20 ≤ S 0 7 0 ∧ S 0 7 0 ≤ 20) ∧ (0 ≤ S 0 7 1 ∧ S 0 7 1 ≤ 9) ∧ (1 ≤ S 0 7 2 ∧ S 0 7 2 ≤ 20) := hx 7
  have r8 : ∀ i, S 0 8 i = 0 ∨ S 0 8 i = 1 := hx 8
  have r9 : 0 ≤ S 0 9 0 ∧ S 0 9 0 ≤ 8 := hx 9
  have r20 := r2 0
  refine j_iload_n 1 1 dX7_pass_0 rfl rfl ?_
  refine j_iconst 2 dX7_pass_1 rfl ?_
  refine j_icmp_lt 11 5 dX7_pass_2 rfl (by decide) (by omega) (by omega) (fun h_2 => ?_) (fun h_2 => ?_)
  · skip
    have e : mPass S H P v t = (-1, S, H, P, v) := if_pos (by omega)
    rw [e]
    refine j_iconst 12 dX7_pass_11 rfl ?_
    exact j_iret dX7_pass_12 rfl (by first | rfl | (exfalso; omega)) (by rfl)
  · skip
    refine j_iload_n 1 6 dX7_pass_5 rfl rfl ?_
    refine j_bipush 8 dX7_pass_6 rfl (by decide) ?_
    refine j_icmp_le 13 11 dX7_pass_8 rfl (by decide) (by omega) (by omega) (fun h_8 => ?_) (fun h_8 => ?_)
    · skip
      have e : mPass S H P v t = ((sPass (S 0) t.toNat).2, cU S 0 (sPass (S 0) t.toNat).1, kH S H v, P, kV v) := if_neg (by omega)
      rw [e]
      refine j_aload_n 0 14 dX7_pass_13 rfl rfl ?_
      refine j_getB 0 0 3 1 17 in_X7_pass_X7 dX7_pass_14 rfl rfl rfl rfl (by decide) rfl rfl ?_
      refine j_aload_n 0 18 dX7_pass_17 rfl rfl ?_
      refine j_getB 0 0 0 2 21 in_X7_pass_X7 dX7_pass_18 rfl rfl rfl rfl (by decide) rfl rfl ?_
      refine j_callVvB (wcs := [_, _, _, _, _, _]) (cs := [_, _, _, _, _, _]) 2 0 [2, 6, 7, 8, 9, 3] 24 [_, _, _, _, _, _, _, _, _, _] (c_X3_keep E _ _ _ _ _ _ _ _ (by exact hx) (by omega) (by omega)) rfl rfl rfl kX7_pass_X3_keep rfl rfl rfl rfl rfl rfl rfl (Nat.le_of_ble_eq_true rfl) (by decide) dX7_pass_21 rfl ?_
      refine j_iconst 25 dX7_pass_24 rfl ?_
      refine j_istore_n 26 [_, _, _] dX7_pass_25 rfl (by decide) rfl ?_
      refine j_iconst 27 dX7_pass_26 rfl ?_
      refine j_istore_n 28 [_, _, _, _] dX7_pass_27 rfl (by decide) rfl ?_
      have key28 : ∀ (fu i : Nat), t.toNat < i + fu → (i : Int) ≤ t → jG mX7_pass E C (jQi E C ((((sPass (S 0) t.toNat).2, cU S 0 (sPass (S 0) t.toNat).1, kH S H v, P, kV v) : Int × cSt).1) (wEyeC E ad qh (((sPass (S 0) t.toNat).2, cU S 0 (sPass (S 0) t.toNat).1, kH S H v, P, kV v) : Int × cSt).2)) 0 0 28 [(0, .ref (ad 7 0)), (1, .int (jI t)), (2, .int (jI (sPass (S 0) i).2)), (3, .int (jI (i : Int)))] [] (wEye E ad qh (cU S 0 (sPass (S 0) i).1) (kH S H v) P (kV v)) := by
        intro fu
        induction fu with
        | zero => intro i h1 h2; exact absurd h1 (by omega)
        | succ fu ih =>
          intro i h1 h2
          have iv := sInv_pass hg (by omega) i
          refine j_iload_n 3 29 dX7_pass_28 rfl rfl ?_
          refine j_iload_n 1 30 dX7_pass_29 rfl rfl ?_
          refine j_icmp_ge 49 33 dX7_pass_30 rfl (by decide) (by omega) (by omega) (fun h_30 => ?_) (fun h_30 => ?_)
          · skip
            obtain rfl : i = t.toNat := by omega
            refine j_iload_n 2 50 dX7_pass_49 rfl rfl ?_
            exact j_iret dX7_pass_50 rfl (by first | rfl | (exfalso; omega)) (by rfl)
          · skip
            refine j_iload_n 2 34 dX7_pass_33 rfl rfl ?_
            refine j_aload_n 0 35 dX7_pass_34 rfl rfl ?_
            refine j_getB 0 0 0 2 38 in_X7_pass_X7 dX7_pass_35 rfl rfl rfl rfl (by decide) rfl rfl ?_
            refine j_callViB (wcs := [_]) (cs := [_]) 3 0 [3] 41 [_, _, _, _, _, _, _, _, _, _] (c_X5_tick E _ (sPass (S 0) i).1 (by exact iv.1) (by exact sInv_11 iv (by omega))) rfl rfl rfl kX7_pass_X5_tick rfl rfl rfl rfl rfl rfl rfl (Nat.le_of_ble_eq_true rfl) (by decide) dX7_pass_38 rfl ?_
            refine j_iadd 42 dX7_pass_41 rfl ?_
            refine j_istore_n 43 [_, _, _, _] dX7_pass_42 rfl (by decide) rfl ?_
            refine j_iinc 3 46 [_, _, _, _] dX7_pass_43 rfl rfl (by decide) rfl ?_
            refine j_goto 28 dX7_pass_46 (by decide) ?_
            refine j_perm [2, 3, 1, 0] rfl ?_
            exact ih (i + 1) (by omega) (by omega)
      refine j_perm [2, 3, 1, 0] rfl ?_
      exact key28 (t.toNat + 1) 0 (by omega) (by omega)
    · skip
      have e : mPass S H P v t = (-1, S, H, P, v) := if_pos (by omega)
      rw [e]
      refine j_iconst 12 dX7_pass_11 rfl ?_
      exact j_iret dX7_pass_12 rfl (by first | rfl | (exfalso; omega)) (by rfl)
set_option maxRecDepth 20000 in
theorem in_X7_rule_X7 : ∀ x ∈ u_ws RX7 TX7 6, x ∈ wsX7_rule := by decide +kernel
set_option maxRecDepth 20000 in
theorem in_X7_rule_X5 : ∀ x ∈ u_ws RX5 TX5 11, x ∈ wsX7_rule := by decide +kernel
set_option maxRecDepth 20000 in
theorem in_X7_rule_X1 : ∀ x ∈ u_ws RX1 TX1 3, x ∈ wsX7_rule := by decide +kernel
theorem kX7_rule_X6_inRange : jKs mX7_rule 40 yX6_inRange wsX6_inRange rmX6_inRange 3 := ⟨gX7_rule_X6_inRange, ⟨_, _, _, _, rfl, by decide⟩, by decide +kernel, rfl, rfl, by decide⟩
theorem kX7_rule_X7_isLane : jKs mX7_rule 82 yX7_isLane wsX7_isLane rmX7_isLane 1 := ⟨gX7_rule_X7_isLane, ⟨_, _, _, _, rfl, by decide⟩, by decide +kernel, rfl, rfl, by decide⟩
theorem kX7_rule_X3_keep : jKv mX7_rule 56 yX3_keep wsX3_keep rmX3_keep 1 := ⟨gX7_rule_X3_keep, ⟨_, _, _, _, rfl, by decide⟩, by decide +kernel, rfl, rfl, by decide⟩
theorem kX7_rule_X6_of : jKs mX7_rule 60 yX6_of wsX6_of rmX6_of 3 := ⟨gX7_rule_X6_of, ⟨_, _, _, _, rfl, by decide⟩, by decide +kernel, rfl, rfl, by decide⟩
theorem kX7_rule_X1_insert : jKv mX7_rule 86 yX1_insert wsX1_insert rmX1_insert 3 := ⟨gX7_rule_X1_insert, ⟨_, _, _, _, rfl, by decide⟩, by decide +kernel, rfl, rfl, by decide⟩
set_option maxRecDepth 100000 in
set_option maxHeartbeats 4000000 in
theorem c_X7_rule (E : jE) (ad qh : Nat → Nat → Nat) (S H : Nat → Nat → Int → Int) (P : Nat → Int → Int) (v : Int → Int) (p a r b l : Int) (hc0 : cOK S H P v) (pb : -2147483648 ≤ p ∧ p < 2147483648) (ab : -2147483648 ≤ a ∧ a < 2147483648) (rb : -2147483648 ≤ r ∧ r < 2147483648) (bb : -2147483648 ≤ b ∧ b < 2147483648) (lb : -2147483648 ≤ l ∧ l < 2147483648) : jMI E yX7_rule wsX7_rule rmX7_rule [.ref (ad 7 0), .int (jI p), .int (jI a), .int (jI r), .int (jI b), .int (jI l)] (wEye E ad qh S H P v) ((mRule S H P v p a r b l).1) (wEyeC E ad qh (mRule S H P v p a r b l).2) := by
  refine jMI_of (cc := cX7_rule) (maxL := 6) (ret := (some .int)) [(0, .ref (ad 7 0)), (1, .int (jI p)), (2, .int (jI a)), (3, .int (jI r)), (4, .int (jI b)), (5, .int (jI l))] (by decide) rfl rfl (Nat.le_of_ble_eq_true rfl) (fun C => ?_)
  show jG mX7_rule E C (jQi E C ((mRule S H P v p a r b l).1) (wEyeC E ad qh (mRule S H P v p a r b l).2)) 0 0 0 [(0, .ref (ad 7 0)), (1, .int (jI p)), (2, .int (jI a)), (3, .int (jI r)), (4, .int (jI b)), (5, .int (jI l))] [] (wEye E ad qh S H P v)
  obtain ⟨okS, okH, rv1, rv2, rv0, rv3, rP0⟩ := hc0
  have hx := okS 0
  have r0 : ∀ i, 0 ≤ S 0 0 i ∧ S 0 0 i < 404000 := hx 0
  have r1 : ∀ i, 0 ≤ S 0 1 i ∧ S 0 1 i ≤ 3 := hx 1
  have r2 : ∀ i, 0 ≤ S 0 2 i ∧ S 0 2 i ≤ 2 := hx 2
  have r3 : ∀ i, -1 ≤ S 0 3 i ∧ S 0 3 i ≤ 4 := hx 3
  have r4 : ∀ i, 0 ≤ S 0 4 i ∧ S 0 4 i < 404000 := hx 4
  have r5 : ∀ i, 0 ≤ S 0 5 i ∧ S 0 5 i ≤ 512 ∧ (i < 4 → S 0 5 i ≤ 20) := hx 5
  have r6 : ∀ i, 0 ≤ S 0 6 i ∧ S 0 6 i < 404000 := hx 6
  have r7 : (-20 ≤ S 0 7 0 ∧ S 0 7 0 ≤ 20) ∧ (0 ≤ S 0 7 1 ∧ S 0 7 1 ≤ 9) ∧ (1 ≤ S 0 7 2 ∧ S 0 7 2 ≤ 20) := hx 7
  have r8 : ∀ i, S 0 8 i = 0 ∨ S 0 8 i = 1 := hx 8
  have r9 : 0 ≤ S 0 9 0 ∧ S 0 9 0 ≤ 8 := hx 9
  have r20 := r2 0
  refine j_iload_n 1 1 dX7_rule_0 rfl rfl ?_
  refine j_if_lt 36 4 dX7_rule_1 rfl (by decide) (by omega) (fun h_1 => ?_) (fun h_1 => ?_)
  · skip
    have e : mRule S H P v p a r b l = (-1, S, H, P, v) := if_pos (by omega)
    rw [e]
    refine j_iconst 37 dX7_rule_36 rfl ?_
    exact j_iret dX7_rule_37 rfl (by first | rfl | (exfalso; omega)) (by rfl)
  · skip
    refine j_iload_n 1 5 dX7_rule_4 rfl rfl ?_
    refine j_aload_n 0 6 dX7_rule_5 rfl rfl ?_
    refine j_getB 0 0 0 1 9 in_X7_rule_X7 dX7_rule_6 rfl rfl rfl rfl (by decide) rfl rfl ?_
    refine j_getB 3 0 0 2 12 in_X7_rule_X5 dX7_rule_9 rfl rfl rfl rfl (by decide) rfl rfl ?_
    refine j_getB 3 1 2 3 15 in_X7_rule_X1 dX7_rule_12 rfl rfl rfl rfl (by decide) rfl rfl ?_
    refine j_icmp_gt 36 18 dX7_rule_15 rfl (by decide) (by omega) (by omega) (fun h_15 => ?_) (fun h_15 => ?_)
    · skip
      have e : mRule S H P v p a r b l = (-1, S, H, P, v) := if_pos (by omega)
      rw [e]
      refine j_iconst 37 dX7_rule_36 rfl ?_
      exact j_iret dX7_rule_37 rfl (by first | rfl | (exfalso; omega)) (by rfl)
    · skip
      refine j_iload_n 2 19 dX7_rule_18 rfl rfl ?_
      refine j_iload_n 3 20 dX7_rule_19 rfl rfl ?_
      refine j_iload 4 22 dX7_rule_20 rfl rfl ?_
      refine j_callSiB (wcs := []) (cs := []) [] 25 [_, _, _, _, _, _, _, _, _, _] (c_X6_inRange E _ _ _ (by omega) (by omega) (by omega)) rfl rfl rfl kX7_rule_X6_inRange rfl rfl rfl rfl (Nat.le_of_ble_eq_true rfl) (by decide) dX7_rule_22 rfl ?_
      have tt : tIn a r b = 0 ∨ tIn a r b = 1 := by unfold tIn; split <;> omega
      refine j_if_eq 36 28 dX7_rule_25 rfl (by decide) (by omega) (fun h_25 => ?_) (fun h_25 => ?_)
      · skip
        have e : mRule S H P v p a r b l = (-1, S, H, P, v) := if_pos (by omega)
        rw [e]
        refine j_iconst 37 dX7_rule_36 rfl ?_
        exact j_iret dX7_rule_37 rfl (by first | rfl | (exfalso; omega)) (by rfl)
      · skip
        refine j_iload 5 30 dX7_rule_28 rfl rfl ?_
        refine j_callSiB (wcs := []) (cs := []) [] 33 [_, _, _, _, _, _, _, _, _, _] (c_X7_isLane E _ (by omega)) rfl rfl rfl kX7_rule_X7_isLane rfl rfl rfl rfl (Nat.le_of_ble_eq_true rfl) (by decide) dX7_rule_30 rfl ?_
        have ll : (if 0 ≤ l ∧ l < 4 then (1 : Int) else 0) = 0 ∨ (if 0 ≤ l ∧ l < 4 then (1 : Int) else 0) = 1 := by split <;> omega
        refine j_if_ne 38 36 dX7_rule_33 rfl (by decide) (by omega) (fun h_33 => ?_) (fun h_33 => ?_)
        · skip
          have l4 : 0 ≤ l ∧ l < 4 := by
            by_cases q : 0 ≤ l ∧ l < 4
            · exact q
            · rw [if_neg q] at h_33; exact absurd rfl h_33
          refine j_aload_n 0 39 dX7_rule_38 rfl rfl ?_
          refine j_getB 0 0 0 1 42 in_X7_rule_X7 dX7_rule_39 rfl rfl rfl rfl (by decide) rfl rfl ?_
          refine j_getB 3 0 0 2 45 in_X7_rule_X5 dX7_rule_42 rfl rfl rfl rfl (by decide) rfl rfl ?_
          refine j_getB 3 1 2 3 48 in_X7_rule_X1 dX7_rule_45 rfl rfl rfl rfl (by decide) rfl rfl ?_
          refine j_bipush 50 dX7_rule_48 rfl (by decide) ?_
          refine j_icmp_lt 56 53 dX7_rule_50 rfl (by decide) (by omega) (by omega) (fun h_50 => ?_) (fun h_50 => ?_)
          · skip
            have e : mRule S H P v p a r b l = (S 0 9 0 + 1, cU S 0 (sRule (S 0) p (tOf a r b) l), kH S H v, P, kV v) := by unfold mRule; rw [if_neg (by omega), if_neg (by omega)]
            rw [e]
            refine j_aload_n 0 57 dX7_rule_56 rfl rfl ?_
            refine j_getB 0 0 3 4 60 in_X7_rule_X7 dX7_rule_57 rfl rfl rfl rfl (by decide) rfl rfl ?_
            refine j_aload_n 0 61 dX7_rule_60 rfl rfl ?_
            refine j_getB 0 0 0 1 64 in_X7_rule_X7 dX7_rule_61 rfl rfl rfl rfl (by decide) rfl rfl ?_
            refine j_callVvB (wcs := [_, _, _, _, _, _]) (cs := [_, _, _, _, _, _]) 2 0 [2, 6, 7, 8, 9, 3] 67 [_, _, _, _, _, _, _, _, _, _] (c_X3_keep E _ _ _ _ _ _ _ _ (by exact hx) (by omega) (by omega)) rfl rfl rfl kX7_rule_X3_keep rfl rfl rfl rfl rfl rfl rfl (Nat.le_of_ble_eq_true rfl) (by decide) dX7_rule_64 rfl ?_
            refine j_aload_n 0 68 dX7_rule_67 rfl rfl ?_
            refine j_getB 0 0 0 1 71 in_X7_rule_X7 dX7_rule_68 rfl rfl rfl rfl (by decide) rfl rfl ?_
            refine j_getB 3 0 0 2 74 in_X7_rule_X5 dX7_rule_71 rfl rfl rfl rfl (by decide) rfl rfl ?_
            refine j_iload_n 1 75 dX7_rule_74 rfl rfl ?_
            refine j_iload_n 2 76 dX7_rule_75 rfl rfl ?_
            refine j_iload_n 3 77 dX7_rule_76 rfl rfl ?_
            refine j_iload 4 79 dX7_rule_77 rfl rfl ?_
            refine j_callSiB (wcs := []) (cs := []) [] 82 [_, _, _, _, _, _, _, _, _, _] (c_X6_of E _ _ _ ) rfl rfl rfl kX7_rule_X6_of rfl rfl rfl rfl (Nat.le_of_ble_eq_true rfl) (by decide) dX7_rule_79 rfl ?_
            refine j_iload 5 84 dX7_rule_82 rfl rfl ?_
            refine j_callVvP 3 1 [1, 2, 3] 87 [_, _, _, _, _, _, _, _, _, _, _, _, _] [_, _, _, _, _, _, _, _, _, _] (c_X1_insert E _ _ _ _ _ _ _ _ _ (by omega) (by omega)) rfl kX7_rule_X1_insert rfl rfl rfl rfl rfl rfl rfl rfl rfl (Nat.le_of_ble_eq_true rfl) (by decide) dX7_rule_84 rfl ?_
            refine j_aload_n 0 88 dX7_rule_87 rfl rfl ?_
            refine j_getB 0 0 0 1 91 in_X7_rule_X7 dX7_rule_88 rfl rfl rfl rfl (by decide) rfl rfl ?_
            refine j_getB 3 0 0 2 94 in_X7_rule_X5 dX7_rule_91 rfl rfl rfl rfl (by decide) rfl rfl ?_
            refine j_getB 3 1 2 3 97 in_X7_rule_X1 dX7_rule_94 rfl rfl rfl rfl (by decide) rfl rfl ?_
            exact j_iret dX7_rule_97 rfl (by first | rfl | (exfalso; omega)) (by rfl)
          · skip
            have e : mRule S H P v p a r b l = (-3, S, H, P, v) := by unfold mRule; rw [if_neg (by omega), if_pos (by omega)]
            rw [e]
            refine j_bipush 55 dX7_rule_53 rfl (by decide) ?_
            exact j_iret dX7_rule_55 rfl (by first | rfl | (exfalso; omega)) (by rfl)
        · skip
          have l4 : ¬ (0 ≤ l ∧ l < 4) := by
            intro q
            rw [if_pos q] at h_33
            exact absurd h_33 (by decide)
          have e : mRule S H P v p a r b l = (-1, S, H, P, v) := if_pos (by omega)
          rw [e]
          refine j_iconst 37 dX7_rule_36 rfl ?_
          exact j_iret dX7_rule_37 rfl (by first | rfl | (exfalso; omega)) (by rfl)
set_option maxRecDepth 20000 in
theorem in_X7_drop_X7 : ∀ x ∈ u_ws RX7 TX7 6, x ∈ wsX7_drop := by decide +kernel
set_option maxRecDepth 20000 in
theorem in_X7_drop_X5 : ∀ x ∈ u_ws RX5 TX5 11, x ∈ wsX7_drop := by decide +kernel
theorem kX7_drop_X1_has : jKv mX7_drop 90 yX1_has wsX1_has rmX1_has 1 := ⟨gX7_drop_X1_has, ⟨_, _, _, _, rfl, by decide⟩, by decide +kernel, rfl, rfl, by decide⟩
theorem kX7_drop_X3_keep : jKv mX7_drop 56 yX3_keep wsX3_keep rmX3_keep 1 := ⟨gX7_drop_X3_keep, ⟨_, _, _, _, rfl, by decide⟩, by decide +kernel, rfl, rfl, by decide⟩
theorem kX7_drop_X1_takeOut : jKv mX7_drop 93 yX1_takeOut wsX1_takeOut rmX1_takeOut 1 := ⟨gX7_drop_X1_takeOut, ⟨_, _, _, _, rfl, by decide⟩, by decide +kernel, rfl, rfl, by decide⟩
set_option maxRecDepth 20000 in
theorem in_X7_drop_X1 : ∀ x ∈ u_ws RX1 TX1 3, x ∈ wsX7_drop := by decide +kernel
set_option maxRecDepth 100000 in
set_option maxHeartbeats 4000000 in
theorem c_X7_drop (E : jE) (ad qh : Nat → Nat → Nat) (S H : Nat → Nat → Int → Int) (P : Nat → Int → Int) (v : Int → Int) (r : Int) (hc0 : cOK S H P v) (rb : -2147483648 ≤ r ∧ r < 2147483648) : jMI E yX7_drop wsX7_drop rmX7_drop [.ref (ad 7 0), .int (jI r)] (wEye E ad qh S H P v) ((mDrop S H P v r).1) (wEyeC E ad qh (mDrop S H P v r).2) := by
  refine jMI_of (cc := cX7_drop) (maxL := 2) (ret := (some .int)) [(0, .ref (ad 7 0)), (1, .int (jI r))] (by decide) rfl rfl (Nat.le_of_ble_eq_true rfl) (fun C => ?_)
  show jG mX7_drop E C (jQi E C ((mDrop S H P v r).1) (wEyeC E ad qh (mDrop S H P v r).2)) 0 0 0 [(0, .ref (ad 7 0)), (1, .int (jI r))] [] (wEye E ad qh S H P v)
  obtain ⟨okS, okH, rv1, rv2, rv0, rv3, rP0⟩ := hc0
  have hx := okS 0
  have r0 : ∀ i, 0 ≤ S 0 0 i ∧ S 0 0 i < 404000 := hx 0
  have r1 : ∀ i, 0 ≤ S 0 1 i ∧ S 0 1 i ≤ 3 := hx 1
  have r2 : ∀ i, 0 ≤ S 0 2 i ∧ S 0 2 i ≤ 2 := hx 2
  have r3 : ∀ i, -1 ≤ S 0 3 i ∧ S 0 3 i ≤ 4 := hx 3
  have r4 : ∀ i, 0 ≤ S 0 4 i ∧ S 0 4 i < 404000 := hx 4
  have r5 : ∀ i, 0 ≤ S 0 5 i ∧ S 0 5 i ≤ 512 ∧ (i < 4 → S 0 5 i ≤ 20) := hx 5
  have r6 : ∀ i, 0 ≤ S 0 6 i ∧ S 0 6 i < 404000 := hx 6
  have r7 : (-20 ≤ S 0 7 0 ∧ S 0 7 0 ≤ 20) ∧ (0 ≤ S 0 7 1 ∧ S 0 7 1 ≤ 9) ∧ (1 ≤ S 0 7 2 ∧ S 0 7 2 ≤ 20) := hx 7
  have r8 : ∀ i, S 0 8 i = 0 ∨ S 0 8 i = 1 := hx 8
  have r9 : 0 ≤ S 0 9 0 ∧ S 0 9 0 ≤ 8 := hx 9
  have r20 := r2 0
  refine j_aload_n 0 1 dX7_drop_0 rfl rfl ?_
  refine j_getB 0 0 0 1 4 in_X7_drop_X7 dX7_drop_1 rfl rfl rfl rfl (by decide) rfl rfl ?_
  refine j_getB 3 0 0 2 7 in_X7_drop_X5 dX7_drop_4 rfl rfl rfl rfl (by decide) rfl rfl ?_
  refine j_iload_n 1 8 dX7_drop_7 rfl rfl ?_
  refine j_callViP 3 1 [1, 2, 3] 11 [_, _, _, _, _, _, _, _, _, _, _, _, _] [_, _, _, _, _, _, _, _, _, _] (c_X1_has E _ _ _ _ _ _ _ (by omega) (by omega)) rfl kX7_drop_X1_has rfl rfl rfl rfl rfl rfl rfl rfl rfl (Nat.le_of_ble_eq_true rfl) (by decide) dX7_drop_8 rfl ?_
  have rr : (0 ≤ r ∧ r < S 0 9 0 ∧ (if 0 ≤ r ∧ r < S 0 9 0 then (1 : Int) else 0) = 1) ∨ (¬ (0 ≤ r ∧ r < S 0 9 0) ∧ (if 0 ≤ r ∧ r < S 0 9 0 then (1 : Int) else 0) = 0) := by split <;> omega
  refine j_if_ne 16 14 dX7_drop_11 rfl (by decide) (by omega) (fun h_11 => ?_) (fun h_11 => ?_)
  · skip
    have e : mDrop S H P v r = (S 0 9 0 - 1, cU S 0 (sOut (S 0) r), kH S H v, P, kV v) := if_pos (by omega)
    rw [e]
    refine j_aload_n 0 17 dX7_drop_16 rfl rfl ?_
    refine j_getB 0 0 3 3 20 in_X7_drop_X7 dX7_drop_17 rfl rfl rfl rfl (by decide) rfl rfl ?_
    refine j_aload_n 0 21 dX7_drop_20 rfl rfl ?_
    refine j_getB 0 0 0 1 24 in_X7_drop_X7 dX7_drop_21 rfl rfl rfl rfl (by decide) rfl rfl ?_
    refine j_callVvB (wcs := [_, _, _, _, _, _]) (cs := [_, _, _, _, _, _]) 2 0 [2, 6, 7, 8, 9, 3] 27 [_, _, _, _, _, _, _, _, _, _] (c_X3_keep E _ _ _ _ _ _ _ _ (by exact hx) (by omega) (by omega)) rfl rfl rfl kX7_drop_X3_keep rfl rfl rfl rfl rfl rfl rfl (Nat.le_of_ble_eq_true rfl) (by decide) dX7_drop_24 rfl ?_
    refine j_aload_n 0 28 dX7_drop_27 rfl rfl ?_
    refine j_getB 0 0 0 1 31 in_X7_drop_X7 dX7_drop_28 rfl rfl rfl rfl (by decide) rfl rfl ?_
    refine j_getB 3 0 0 2 34 in_X7_drop_X5 dX7_drop_31 rfl rfl rfl rfl (by decide) rfl rfl ?_
    refine j_iload_n 1 35 dX7_drop_34 rfl rfl ?_
    refine j_callVvP 3 1 [1, 2, 3] 38 [_, _, _, _, _, _, _, _, _, _, _, _, _] [_, _, _, _, _, _, _, _, _, _] (c_X1_takeOut E _ _ _ _ _ _ _ (by omega) (by omega)) rfl kX7_drop_X1_takeOut rfl rfl rfl rfl rfl rfl rfl rfl rfl (Nat.le_of_ble_eq_true rfl) (by decide) dX7_drop_35 rfl ?_
    refine j_aload_n 0 39 dX7_drop_38 rfl rfl ?_
    refine j_getB 0 0 0 1 42 in_X7_drop_X7 dX7_drop_39 rfl rfl rfl rfl (by decide) rfl rfl ?_
    refine j_getB 3 0 0 2 45 in_X7_drop_X5 dX7_drop_42 rfl rfl rfl rfl (by decide) rfl rfl ?_
    refine j_getB 3 1 2 4 48 in_X7_drop_X1 dX7_drop_45 rfl rfl rfl rfl (by decide) rfl rfl ?_
    exact j_iret dX7_drop_48 rfl (by first | rfl | (exfalso; omega)) (by rfl)
  · skip
    have e : mDrop S H P v r = (-1, S, H, P, v) := if_neg (by omega)
    rw [e]
    refine j_iconst 15 dX7_drop_14 rfl ?_
    exact j_iret dX7_drop_15 rfl (by first | rfl | (exfalso; omega)) (by rfl)
theorem kX7_water_X7_isLane : jKs mX7_water 82 yX7_isLane wsX7_isLane rmX7_isLane 1 := ⟨gX7_water_X7_isLane, ⟨_, _, _, _, rfl, by decide⟩, by decide +kernel, rfl, rfl, by decide⟩
set_option maxRecDepth 20000 in
theorem in_X7_water_X7 : ∀ x ∈ u_ws RX7 TX7 6, x ∈ wsX7_water := by decide +kernel
theorem kX7_water_X3_keep : jKv mX7_water 56 yX3_keep wsX3_keep rmX3_keep 1 := ⟨gX7_water_X3_keep, ⟨_, _, _, _, rfl, by decide⟩, by decide +kernel, rfl, rfl, by decide⟩
set_option maxRecDepth 20000 in
theorem in_X7_water_X5 : ∀ x ∈ u_ws RX5 TX5 11, x ∈ wsX7_water := by decide +kernel
set_option maxRecDepth 100000 in
set_option maxHeartbeats 4000000 in
theorem c_X7_water (E : jE) (ad qh : Nat → Nat → Nat) (S H : Nat → Nat → Int → Int) (P : Nat → Int → Int) (v : Int → Int) (l : Int) (hc0 : cOK S H P v) (lb : -2147483648 ≤ l ∧ l < 2147483648) : jMI E yX7_water wsX7_water rmX7_water [.ref (ad 7 0), .int (jI l)] (wEye E ad qh S H P v) ((mWater S H P v l).1) (wEyeC E ad qh (mWater S H P v l).2) := by
  refine jMI_of (cc := cX7_water) (maxL := 2) (ret := (some .int)) [(0, .ref (ad 7 0)), (1, .int (jI l))] (by decide) rfl rfl (Nat.le_of_ble_eq_true rfl) (fun C => ?_)
  show jG mX7_water E C (jQi E C ((mWater S H P v l).1) (wEyeC E ad qh (mWater S H P v l).2)) 0 0 0 [(0, .ref (ad 7 0)), (1, .int (jI l))] [] (wEye E ad qh S H P v)
  obtain ⟨okS, okH, rv1, rv2, rv0, rv3, rP0⟩ := hc0
  have hx := okS 0
  have r0 : ∀ i, 0 ≤ S 0 0 i ∧ S 0 0 i < 404000 := hx 0
  have r1 : ∀ i, 0 ≤ S 0 1 i ∧ S 0 1 i ≤ 3 := hx 1
  have r2 : ∀ i, 0 ≤ S 0 2 i ∧ S 0 2 i ≤ 2 := hx 2
  have r3 : ∀ i, -1 ≤ S 0 3 i ∧ S 0 3 i ≤ 4 := hx 3
  have r4 : ∀ i, 0 ≤ S 0 4 i ∧ S 0 4 i < 404000 := hx 4
  have r5 : ∀ i, 0 ≤ S 0 5 i ∧ S 0 5 i ≤ 512 ∧ (i < 4 → S 0 5 i ≤ 20) := hx 5
  have r6 : ∀ i, 0 ≤ S 0 6 i ∧ S 0 6 i < 404000 := hx 6
  have r7 : (-20 ≤ S 0 7 0 ∧ S 0 7 0 ≤ 20) ∧ (0 ≤ S 0 7 1 ∧ S 0 7 1 ≤ 9) ∧ (1 ≤ S 0 7 2 ∧ S 0 7 2 ≤ 20) := hx 7
  have r8 : ∀ i, S 0 8 i = 0 ∨ S 0 8 i = 1 := hx 8
  have r9 : 0 ≤ S 0 9 0 ∧ S 0 9 0 ≤ 8 := hx 9
  have r20 := r2 0
  refine j_iload_n 1 1 dX7_water_0 rfl rfl ?_
  refine j_callSiB (wcs := []) (cs := []) [] 4 [_, _, _, _, _, _, _, _, _, _] (c_X7_isLane E _ (by omega)) rfl rfl rfl kX7_water_X7_isLane rfl rfl rfl rfl (Nat.le_of_ble_eq_true rfl) (by decide) dX7_water_1 rfl ?_
  have ll : (0 ≤ l ∧ l < 4 ∧ (if 0 ≤ l ∧ l < 4 then (1 : Int) else 0) = 1) ∨ (¬ (0 ≤ l ∧ l < 4) ∧ (if 0 ≤ l ∧ l < 4 then (1 : Int) else 0) = 0) := by split <;> omega
  have r8l := r8 l
  refine j_if_ne 9 7 dX7_water_4 rfl (by decide) (by omega) (fun h_4 => ?_) (fun h_4 => ?_)
  · skip
    have e : mWater S H P v l = (1 - S 0 8 l, cU S 0 (jS (S 0) 8 (jU (S 0 8) l (1 - S 0 8 l))), kH S H v, P, kV v) := if_pos (by omega)
    rw [e]
    refine j_aload_n 0 10 dX7_water_9 rfl rfl ?_
    refine j_getB 0 0 3 1 13 in_X7_water_X7 dX7_water_10 rfl rfl rfl rfl (by decide) rfl rfl ?_
    refine j_aload_n 0 14 dX7_water_13 rfl rfl ?_
    refine j_getB 0 0 0 2 17 in_X7_water_X7 dX7_water_14 rfl rfl rfl rfl (by decide) rfl rfl ?_
    refine j_callVvB (wcs := [_, _, _, _, _, _]) (cs := [_, _, _, _, _, _]) 2 0 [2, 6, 7, 8, 9, 3] 20 [_, _, _, _, _, _, _, _, _, _] (c_X3_keep E _ _ _ _ _ _ _ _ (by exact hx) (by omega) (by omega)) rfl rfl rfl kX7_water_X3_keep rfl rfl rfl rfl rfl rfl rfl (Nat.le_of_ble_eq_true rfl) (by decide) dX7_water_17 rfl ?_
    refine j_aload_n 0 21 dX7_water_20 rfl rfl ?_
    refine j_getB 0 0 0 2 24 in_X7_water_X7 dX7_water_21 rfl rfl rfl rfl (by decide) rfl rfl ?_
    refine j_getB 3 0 4 3 27 in_X7_water_X5 dX7_water_24 rfl rfl rfl rfl (by decide) rfl rfl ?_
    refine j_iload_n 1 28 dX7_water_27 rfl rfl ?_
    refine j_aload_n 0 29 dX7_water_28 rfl rfl ?_
    refine j_getB 0 0 0 2 32 in_X7_water_X7 dX7_water_29 rfl rfl rfl rfl (by decide) rfl rfl ?_
    refine j_getB 3 0 4 3 35 in_X7_water_X5 dX7_water_32 rfl rfl rfl rfl (by decide) rfl rfl ?_
    refine j_iload_n 1 36 dX7_water_35 rfl rfl ?_
    refine j_zaldB 3 12 37 dX7_water_36 rfl rfl rfl (by decide) (by omega) ?_
    refine j_if_ne 44 40 dX7_water_37 rfl (by decide) (by omega) (fun h_37 => ?_) (fun h_37 => ?_)
    · skip
      refine j_iconst 45 dX7_water_44 rfl ?_
      first
        | rw [show (1 : Int) - S 0 8 l = 1 by omega]
        | rw [show (1 : Int) - S 0 8 l = 0 by omega]
      refine j_zastB 3 12 46 [_, _, _, _, _, _, _, _, _, _, _, _, _] [_, _, _, _, _, _, _, _, _, _] dX7_water_45 rfl rfl rfl (by decide) (by omega) (by omega) rfl rfl ?_
      refine j_aload_n 0 47 dX7_water_46 rfl rfl ?_
      refine j_getB 0 0 0 2 50 in_X7_water_X7 dX7_water_47 rfl rfl rfl rfl (by decide) rfl rfl ?_
      refine j_getB 3 0 4 3 53 in_X7_water_X5 dX7_water_50 rfl rfl rfl rfl (by decide) rfl rfl ?_
      refine j_iload_n 1 54 dX7_water_53 rfl rfl ?_
      refine j_zaldB 3 12 55 dX7_water_54 rfl rfl rfl (by decide) (by omega) ?_
      rw [jU_at]
      refine j_if_eq 62 58 dX7_water_55 rfl (by decide) (by omega) (fun h_55 => ?_) (fun h_55 => ?_)
      · skip
        refine j_iconst 63 dX7_water_62 rfl ?_
        exact j_iret dX7_water_63 rfl (by first | rfl | (exfalso; omega)) (by rfl)
      · skip
        refine j_iconst 59 dX7_water_58 rfl ?_
        refine j_goto 63 dX7_water_59 (by decide) ?_
        exact j_iret dX7_water_63 rfl (by first | rfl | (exfalso; omega)) (by rfl)
    · skip
      refine j_iconst 41 dX7_water_40 rfl ?_
      refine j_goto 45 dX7_water_41 (by decide) ?_
      first
        | rw [show (1 : Int) - S 0 8 l = 1 by omega]
        | rw [show (1 : Int) - S 0 8 l = 0 by omega]
      refine j_zastB 3 12 46 [_, _, _, _, _, _, _, _, _, _, _, _, _] [_, _, _, _, _, _, _, _, _, _] dX7_water_45 rfl rfl rfl (by decide) (by omega) (by omega) rfl rfl ?_
      refine j_aload_n 0 47 dX7_water_46 rfl rfl ?_
      refine j_getB 0 0 0 2 50 in_X7_water_X7 dX7_water_47 rfl rfl rfl rfl (by decide) rfl rfl ?_
      refine j_getB 3 0 4 3 53 in_X7_water_X5 dX7_water_50 rfl rfl rfl rfl (by decide) rfl rfl ?_
      refine j_iload_n 1 54 dX7_water_53 rfl rfl ?_
      refine j_zaldB 3 12 55 dX7_water_54 rfl rfl rfl (by decide) (by omega) ?_
      rw [jU_at]
      refine j_if_eq 62 58 dX7_water_55 rfl (by decide) (by omega) (fun h_55 => ?_) (fun h_55 => ?_)
      · skip
        refine j_iconst 63 dX7_water_62 rfl ?_
        exact j_iret dX7_water_63 rfl (by first | rfl | (exfalso; omega)) (by rfl)
      · skip
        refine j_iconst 59 dX7_water_58 rfl ?_
        refine j_goto 63 dX7_water_59 (by decide) ?_
        exact j_iret dX7_water_63 rfl (by first | rfl | (exfalso; omega)) (by rfl)
  · skip
    have e : mWater S H P v l = (-1, S, H, P, v) := if_neg (by omega)
    rw [e]
    refine j_iconst 8 dX7_water_7 rfl ?_
    exact j_iret dX7_water_8 rfl (by first | rfl | (exfalso; omega)) (by rfl)
theorem kX7_empty_X7_isBox : jKs mX7_empty 100 yX7_isBox wsX7_isBox rmX7_isBox 1 := ⟨gX7_empty_X7_isBox, ⟨_, _, _, _, rfl, by decide⟩, by decide +kernel, rfl, rfl, by decide⟩
set_option maxRecDepth 20000 in
theorem in_X7_empty_X7 : ∀ x ∈ u_ws RX7 TX7 6, x ∈ wsX7_empty := by decide +kernel
theorem kX7_empty_X3_keep : jKv mX7_empty 56 yX3_keep wsX3_keep rmX3_keep 1 := ⟨gX7_empty_X3_keep, ⟨_, _, _, _, rfl, by decide⟩, by decide +kernel, rfl, rfl, by decide⟩
theorem kX7_empty_X5_emptyBox : jKv mX7_empty 103 yX5_emptyBox wsX5_emptyBox rmX5_emptyBox 1 := ⟨gX7_empty_X5_emptyBox, ⟨_, _, _, _, rfl, by decide⟩, by decide +kernel, rfl, rfl, by decide⟩
set_option maxRecDepth 100000 in
set_option maxHeartbeats 4000000 in
theorem c_X7_empty (E : jE) (ad qh : Nat → Nat → Nat) (S H : Nat → Nat → Int → Int) (P : Nat → Int → Int) (v : Int → Int) (l : Int) (hc0 : cOK S H P v) (lb : -2147483648 ≤ l ∧ l < 2147483648) : jMI E yX7_empty wsX7_empty rmX7_empty [.ref (ad 7 0), .int (jI l)] (wEye E ad qh S H P v) ((mEmpty S H P v l).1) (wEyeC E ad qh (mEmpty S H P v l).2) := by
  refine jMI_of (cc := cX7_empty) (maxL := 2) (ret := (some .int)) [(0, .ref (ad 7 0)), (1, .int (jI l))] (by decide) rfl rfl (Nat.le_of_ble_eq_true rfl) (fun C => ?_)
  show jG mX7_empty E C (jQi E C ((mEmpty S H P v l).1) (wEyeC E ad qh (mEmpty S H P v l).2)) 0 0 0 [(0, .ref (ad 7 0)), (1, .int (jI l))] [] (wEye E ad qh S H P v)
  obtain ⟨okS, okH, rv1, rv2, rv0, rv3, rP0⟩ := hc0
  have hx := okS 0
  have r0 : ∀ i, 0 ≤ S 0 0 i ∧ S 0 0 i < 404000 := hx 0
  have r1 : ∀ i, 0 ≤ S 0 1 i ∧ S 0 1 i ≤ 3 := hx 1
  have r2 : ∀ i, 0 ≤ S 0 2 i ∧ S 0 2 i ≤ 2 := hx 2
  have r3 : ∀ i, -1 ≤ S 0 3 i ∧ S 0 3 i ≤ 4 := hx 3
  have r4 : ∀ i, 0 ≤ S 0 4 i ∧ S 0 4 i < 404000 := hx 4
  have r5 : ∀ i, 0 ≤ S 0 5 i ∧ S 0 5 i ≤ 512 ∧ (i < 4 → S 0 5 i ≤ 20) := hx 5
  have r6 : ∀ i, 0 ≤ S 0 6 i ∧ S 0 6 i < 404000 := hx 6
  have r7 : (-20 ≤ S 0 7 0 ∧ S 0 7 0 ≤ 20) ∧ (0 ≤ S 0 7 1 ∧ S 0 7 1 ≤ 9) ∧ (1 ≤ S 0 7 2 ∧ S 0 7 2 ≤ 20) := hx 7
  have r8 : ∀ i, S 0 8 i = 0 ∨ S 0 8 i = 1 := hx 8
  have r9 : 0 ≤ S 0 9 0 ∧ S 0 9 0 ≤ 8 := hx 9
  have r20 := r2 0
  refine j_iload_n 1 1 dX7_empty_0 rfl rfl ?_
  refine j_callSiB (wcs := []) (cs := []) [] 4 [_, _, _, _, _, _, _, _, _, _] (c_X7_isBox E _ (by omega)) rfl rfl rfl kX7_empty_X7_isBox rfl rfl rfl rfl (Nat.le_of_ble_eq_true rfl) (by decide) dX7_empty_1 rfl ?_
  have ll : (0 ≤ l ∧ l ≤ 4 ∧ (if 0 ≤ l ∧ l ≤ 4 then (1 : Int) else 0) = 1) ∨ (¬ (0 ≤ l ∧ l ≤ 4) ∧ (if 0 ≤ l ∧ l ≤ 4 then (1 : Int) else 0) = 0) := by split <;> omega
  refine j_if_ne 9 7 dX7_empty_4 rfl (by decide) (by omega) (fun h_4 => ?_) (fun h_4 => ?_)
  · skip
    have e : mEmpty S H P v l = (S 0 5 l, cU S 0 (sEmpty (S 0) l), kH S H v, P, kV v) := if_pos (by omega)
    rw [e]
    refine j_aload_n 0 10 dX7_empty_9 rfl rfl ?_
    refine j_getB 0 0 3 1 13 in_X7_empty_X7 dX7_empty_10 rfl rfl rfl rfl (by decide) rfl rfl ?_
    refine j_aload_n 0 14 dX7_empty_13 rfl rfl ?_
    refine j_getB 0 0 0 2 17 in_X7_empty_X7 dX7_empty_14 rfl rfl rfl rfl (by decide) rfl rfl ?_
    refine j_callVvB (wcs := [_, _, _, _, _, _]) (cs := [_, _, _, _, _, _]) 2 0 [2, 6, 7, 8, 9, 3] 20 [_, _, _, _, _, _, _, _, _, _] (c_X3_keep E _ _ _ _ _ _ _ _ (by exact hx) (by omega) (by omega)) rfl rfl rfl kX7_empty_X3_keep rfl rfl rfl rfl rfl rfl rfl (Nat.le_of_ble_eq_true rfl) (by decide) dX7_empty_17 rfl ?_
    refine j_aload_n 0 21 dX7_empty_20 rfl rfl ?_
    refine j_getB 0 0 0 2 24 in_X7_empty_X7 dX7_empty_21 rfl rfl rfl rfl (by decide) rfl rfl ?_
    refine j_iload_n 1 25 dX7_empty_24 rfl rfl ?_
    refine j_callViB (wcs := [_]) (cs := [_]) 3 0 [3] 28 [_, _, _, _, _, _, _, _, _, _] (c_X5_emptyBox E _ _ _ (by exact hx) (by omega)) rfl rfl rfl kX7_empty_X5_emptyBox rfl rfl rfl rfl rfl rfl rfl (Nat.le_of_ble_eq_true rfl) (by decide) dX7_empty_25 rfl ?_
    exact j_iret dX7_empty_28 rfl (by first | rfl | (exfalso; omega)) (by rfl)
  · skip
    have e : mEmpty S H P v l = (-1, S, H, P, v) := if_neg (by omega)
    rw [e]
    refine j_iconst 8 dX7_empty_7 rfl ?_
    exact j_iret dX7_empty_8 rfl (by first | rfl | (exfalso; omega)) (by rfl)
