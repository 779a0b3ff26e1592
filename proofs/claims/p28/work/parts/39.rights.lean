/-! right -/
theorem sWa_rng {x : Nat → Int → Int} (hx : sOK x) : 0 ≤ sWa x ∧ sWa x ≤ jSum (x 5) 4 ∧ jSum (x 5) 4 ≤ 80 := by
  have r5 : ∀ i, 0 ≤ x 5 i ∧ x 5 i ≤ 512 ∧ (i < 4 → x 5 i ≤ 20) := hx 5
  have w : ∀ l, 0 ≤ sWi x l ∧ sWi x l ≤ x 5 l := fun l => by
    have r5l := r5 l
    have := jSum_rng (g := fun i => sWr x l (x 6 (l * 20 + i))) (b := 1) (by omega) (x 5 l).toNat (fun i _ => by have := sWr_01 x l (x 6 (l * 20 + i)); omega)
    unfold sWi
    omega
  have w0 := w ((0 : Nat) : Int)
  have w1 := w ((1 : Nat) : Int)
  have w2 := w ((2 : Nat) : Int)
  have w3 := w ((3 : Nat) : Int)
  have a0 := r5 ((0 : Nat) : Int)
  have a1 := r5 ((1 : Nat) : Int)
  have a2 := r5 ((2 : Nat) : Int)
  have a3 := r5 ((3 : Nat) : Int)
  have e1 : sWa x = 0 + sWi x ((0 : Nat) : Int) + sWi x ((1 : Nat) : Int) + sWi x ((2 : Nat) : Int) + sWi x ((3 : Nat) : Int) := rfl
  have e2 : jSum (x 5) 4 = 0 + x 5 ((0 : Nat) : Int) + x 5 ((1 : Nat) : Int) + x 5 ((2 : Nat) : Int) + x 5 ((3 : Nat) : Int) := rfl
  omega
set_option maxRecDepth 20000 in
theorem in_X7_right_X7 : ∀ x ∈ u_ws RX7 TX7 6, x ∈ wsX7_right := by decide +kernel
set_option maxRecDepth 20000 in
theorem in_X7_right_X5 : ∀ x ∈ u_ws RX5 TX5 11, x ∈ wsX7_right := by decide +kernel
theorem kX7_right_X2_applesBelow : jKv mX7_right 217 yX2_applesBelow wsX2_applesBelow rmX2_applesBelow 1 := ⟨gX7_right_X2_applesBelow, ⟨_, _, _, _, rfl, by decide⟩, by decide +kernel, rfl, rfl, by decide⟩
theorem kX7_right_X5_wrongInAll : jKv mX7_right 220 yX5_wrongInAll wsX5_wrongInAll rmX5_wrongInAll 0 := ⟨gX7_right_X5_wrongInAll, ⟨_, _, _, _, rfl, by decide⟩, by decide +kernel, rfl, rfl, by decide⟩
set_option maxRecDepth 100000 in
set_option maxHeartbeats 4000000 in
theorem c_X7_right (E : jE) (ad qh : Nat → Nat → Nat) (S H : Nat → Nat → Int → Int) (P : Nat → Int → Int) (v : Int → Int) (hc0 : cOK S H P v) : jMD E yX7_right wsX7_right rmX7_right [.ref (ad 7 0)] (wEye E ad qh S H P v) (shD1 (sWa (S 0)) (jSum (S 0 5) 4)) (wEye E ad qh S H P v) := by
  refine jMD_of (cc := cX7_right) (maxL := 2) (ret := (some .double)) [(0, .ref (ad 7 0))] (by decide) rfl rfl (Nat.le_of_ble_eq_true rfl) (fun C => ?_)
  show jG mX7_right E C (jQd E C (shD1 (sWa (S 0)) (jSum (S 0 5) 4)) (wEye E ad qh S H P v)) 0 0 0 [(0, .ref (ad 7 0))] [] (wEye E ad qh S H P v)
  obtain ⟨okS, okH, rv1, rv2, rv0, rv3, rP0⟩ := hc0
  have hx := okS 0
  have r0 : ∀ i, 0 ≤ S 0 0 i ∧ S 0 0 i < 404000 := hx 0
  have r1 : ∀ i, 0 ≤ S 0 1 i ∧ S 0 1 i ≤ 3 := hx 1
  have r2 : ∀ i, 0 ≤ S 0 2 i ∧ S 0 2 i ≤ 2 := hx 2
  have r3 : ∀ i, -1 ≤ S 0 3 i ∧ S 0 3 i ≤ 4 := hx 3
  have r4 : ∀ i, 0 ≤ S 0 4 i ∧ S 0 4 i < 404000 := hx 4
  have r5 : ∀ i, 0 ≤ S 0 5 i ∧ S 0 5 i ≤ 512 ∧ (i < 4 → S 0 5 i ≤ 20) := hx 5
  have r6 : ∀ i, 0 ≤ S 0 6 i ∧ S 0 6 i < 404000 := hx 6
  have r7 : (-20 ≤ S 0 7 0 ∧ S 0 7 0 ≤ 20) ∧ (0 ≤ S 0 7 1 ∧ S 0 7 1 ≤ 9) ∧ (1 ≤ S 0 7 2 ∧ S 0 7 2 ≤ 20) := hx 7
  have r8 : ∀ i, S 0 8 i = 0 ∨ S 0 8 i = 1 := hx 8
  have r9 : 0 ≤ S 0 9 0 ∧ S 0 9 0 ≤ 8 := hx 9
  have r20 := r2 0
  have ww := sWa_rng hx
  refine j_aload_n 0 1 dX7_right_0 rfl rfl ?_
  refine j_getB 0 0 0 1 4 in_X7_right_X7 dX7_right_1 rfl rfl rfl rfl (by decide) rfl rfl ?_
  refine j_getB 3 0 2 2 7 in_X7_right_X5 dX7_right_4 rfl rfl rfl rfl (by decide) rfl rfl ?_
  refine j_iconst 8 dX7_right_7 rfl ?_
  refine j_callViP 3 8 [8, 9, 10] 11 [_, _, _, _, _, _, _, _, _, _, _, _, _] [_, _, _, _, _, _, _, _, _, _] (c_X2_applesBelow E _ _ _ _ _ 4 (by omega)) rfl kX7_right_X2_applesBelow rfl rfl rfl rfl rfl rfl rfl rfl rfl (Nat.le_of_ble_eq_true rfl) (by decide) dX7_right_8 rfl ?_
  change jG _ E C _ 0 0 11 _ (.int (jI (jSum (S 0 5) 4)) :: _) _
  refine j_istore_n 12 [_, _] dX7_right_11 rfl (by decide) rfl ?_
  refine j_iload_n 0 13 dX7_right_12 rfl rfl ?_
  refine j_if_gt 18 16 dX7_right_13 rfl (by decide) (by omega) (fun h_13 => ?_) (fun h_13 => ?_)
  · skip
    have e : shD1 (sWa (S 0)) (jSum ((S 0) 5) 4) = FP.ddiv (FP.i2d (jI (jSum ((S 0) 5) 4 - sWa (S 0)))) (FP.i2d (jI (jSum ((S 0) 5) 4))) := if_neg (by omega)
    rw [e]
    refine j_iload_n 0 19 dX7_right_18 rfl rfl ?_
    refine j_aload_n 1 20 dX7_right_19 rfl rfl ?_
    refine j_getB 0 0 0 1 23 in_X7_right_X7 dX7_right_20 rfl rfl rfl rfl (by decide) rfl rfl ?_
    refine j_callViB (wcs := [_]) (cs := [_]) 3 0 [3] 26 [_, _, _, _, _, _, _, _, _, _] (c_X5_wrongInAll E _ _ (by exact hx)) rfl rfl rfl kX7_right_X5_wrongInAll rfl rfl rfl rfl rfl rfl rfl (Nat.le_of_ble_eq_true rfl) (by decide) dX7_right_23 rfl ?_
    refine j_isub 27 dX7_right_26 rfl ?_
    refine j_i2d 28 dX7_right_27 rfl ?_
    refine j_iload_n 0 29 dX7_right_28 rfl rfl ?_
    refine j_i2d 30 dX7_right_29 rfl ?_
    refine j_ddiv 31 dX7_right_30 rfl (by omega) (by omega) ?_
    exact j_dret dX7_right_31 rfl (by rfl) (by rfl)
  · skip
    have e : shD1 (sWa (S 0)) (jSum ((S 0) 5) 4) = 0x3ff0000000000000 := if_pos (by omega)
    rw [e]
    refine j_dconst1 17 dX7_right_16 rfl ?_
    exact j_dret dX7_right_17 rfl (by rfl) (by rfl)
