/-! the constructors -/
def jAd (o : Nat) (u : Nat → Nat) : Nat → Nat := fun i => cond (Nat.beq i 0) o (u i)
def jAe (o : Nat) (u : Nat → Nat → Nat) : Nat → Nat → Nat := fun i j => cond (Nat.beq i 7 && Nat.beq j 0) o (u i j)
def gNo : Int → Int := fun _ => -1
def jQh (a b c d : Nat → Nat) : Nat → Nat → Nat := fun k => match k with
  | 0 => a
  | 1 => b
  | 2 => c
  | _ => d
abbrev bX1 (E : jE) (o : Nat) (u : Nat × Nat) : va_W := wBook E o u.1 u.2 zF zF 0
abbrev bX0 (E : jE) (o : Nat) (u : Nat × Nat × Nat) : va_W := wBelt E o u.1 u.2.1 u.2.2 zF gNo zF
abbrev bX2 (E : jE) (o : Nat) (u : Nat × Nat) : va_W := wBoxes E o u.1 u.2 zF zF
abbrev bX4 (E : jE) (o : Nat) (u : Nat × Nat × Nat) : va_W := wPad E o u.1 u.2.1 u.2.2 zF zF zF 0 0 0 0 0
abbrev bX5 (E : jE) (o : Nat) (u : Nat → Nat) : va_W := wState E (jAd o u) sNew
abbrev bX3 (E : jE) (o : Nat) (u : Nat × (Nat → Nat → Nat)) : va_W := wHh E o u.1 u.2 0 0 ++ (wState E (u.2 0) sNew ++ (wState E (u.2 1) sNew ++ (wState E (u.2 2) sNew ++ wState E (u.2 3) sNew)))
abbrev bX7 (E : jE) (o : Nat) (u : (Nat → Nat → Nat) × (Nat → Nat → Nat)) : va_W := wEye E (jAe o u.1) u.2 (fun _ => sNew) (fun _ => sNew) (fun _ => zF) zF
theorem vz : Value.int 0 = Value.int (jI 0) := by rw [← jI_0]
theorem j_eqq {M : jM} {E : jE} {C : jC} {Q : State → Prop} {k n pc : Nat} {L : List (Nat × Value)} {S : List Value} {w : va_W} {a nA : Nat} {f : Nat → Option Nat} (g : Nat → Option Nat) (q0 : Nat) (w' : va_W) (ha : w[q0]? = some (a, .inl (E.2.2.2, nA, .inr (.inr (.inr (.inr f)))))) (hfg : ∀ j, j < nA → f j = g j) (hw : w.set q0 (a, .inl (E.2.2.2, nA, .inr (.inr (.inr (.inr g))))) = w') (kk : jG M E C Q k n pc L S w') : jG M E C Q k n pc L S w := by
  subst hw
  intro hF H locs ls hP hD hS hl
  refine kk hF H locs ls (fun k q hk => ?_) (va_D_fst ?_ hD) hS hl
  · by_cases e : k = q0
    · subst e
      have hl : k < w.length := (List.getElem?_eq_some_iff.mp ha).1
      rw [List.getElem?_set_self hl] at hk
      cases hk
      have h1 : H[a]? = some (vp_cell E.2.2.2 (nA, .inr (.inr (.inr (.inr f))))) := hP k _ ha
      show H[a]? = some (vp_cell E.2.2.2 (nA, .inr (.inr (.inr (.inr g)))))
      rw [h1, vp_cell_q, vp_cell_q]
      unfold arrV
      have e2 : (fun j : Fin nA => va_rf (f j.val)) = fun j : Fin nA => va_rf (g j.val) := by
        funext j
        rw [hfg j.val j.isLt]
      rw [e2]
    · rw [List.getElem?_set_ne (Ne.symm e)] at hk
      exact hP k q hk
  · refine List.ext_getElem? (fun i => ?_)
    rw [List.getElem?_map, List.getElem?_map]
    by_cases e : i = q0
    · subst e
      have hl : i < w.length := (List.getElem?_eq_some_iff.mp ha).1
      rw [List.getElem?_set_self hl, ha]
      rfl
    · rw [List.getElem?_set_ne (Ne.symm e)]
theorem vnX0 : ∀ j, j < 3 → defaultValue (tyX0 j) = vp_V [.null, .null, .null] j := by
  intro j hj
  rcases (show j = 0 ∨ j = 1 ∨ j = 2 by omega) with rfl | rfl | rfl <;> first | rfl | exact vz
theorem vnX1 : ∀ j, j < 3 → defaultValue (tyX1 j) = vp_V [.null, .null, .int (jI 0)] j := by
  intro j hj
  rcases (show j = 0 ∨ j = 1 ∨ j = 2 by omega) with rfl | rfl | rfl <;> first | rfl | exact vz
theorem vnX2 : ∀ j, j < 2 → defaultValue (tyX2 j) = vp_V [.null, .null] j := by
  intro j hj
  rcases (show j = 0 ∨ j = 1 by omega) with rfl | rfl <;> first | rfl | exact vz
theorem vnX3 : ∀ j, j < 3 → defaultValue (tyX3 j) = vp_V [.null, .int (jI 0), .int (jI 0)] j := by
  intro j hj
  rcases (show j = 0 ∨ j = 1 ∨ j = 2 by omega) with rfl | rfl | rfl <;> first | rfl | exact vz
theorem vnX4 : ∀ j, j < 8 → defaultValue (tyX4 j) = vp_V [.null, .null, .null, .int (jI 0), .int (jI 0), .int (jI 0), .int (jI 0), .int (jI 0)] j := by
  intro j hj
  rcases (show j = 0 ∨ j = 1 ∨ j = 2 ∨ j = 3 ∨ j = 4 ∨ j = 5 ∨ j = 6 ∨ j = 7 by omega) with rfl | rfl | rfl | rfl | rfl | rfl | rfl | rfl <;> first | rfl | exact vz
theorem vnX5 : ∀ j, j < 11 → defaultValue (tyX5 j) = vp_V [.null, .null, .null, .null, .null, .int (jI 0), .int (jI 0), .int (jI 0), .int (jI 0), .int (jI 0), .int (jI 0)] j := by
  intro j hj
  rcases (show j = 0 ∨ j = 1 ∨ j = 2 ∨ j = 3 ∨ j = 4 ∨ j = 5 ∨ j = 6 ∨ j = 7 ∨ j = 8 ∨ j = 9 ∨ j = 10 by omega) with rfl | rfl | rfl | rfl | rfl | rfl | rfl | rfl | rfl | rfl | rfl <;> first | rfl | exact vz
theorem vnX7 : ∀ j, j < 6 → defaultValue (tyX7 j) = vp_V [.null, .null, .null, .null, .null, .int (jI 0)] j := by
  intro j hj
  rcases (show j = 0 ∨ j = 1 ∨ j = 2 ∨ j = 3 ∨ j = 4 ∨ j = 5 by omega) with rfl | rfl | rfl | rfl | rfl | rfl <;> first | rfl | exact vz
def rnX1_init : Room := { frames := 1, cells := 2, slots := 16, locals := 14 }
abbrev nX1_init : jM := (cX1_init, wsX1_init, yX1_init.cls, 1, none, rnX1_init)
set_option maxRecDepth 20000 in
theorem in_X1_init_X1 : ∀ x ∈ u_ws RX1 TX1 3, x ∈ wsX1_init := by decide +kernel
set_option maxRecDepth 100000 in
set_option maxHeartbeats 4000000 in
theorem c_X1_init (E : jE) (o : Nat) : jMN E yX1_init wsX1_init rnX1_init [.ref o] [(o, .inr (1, [.null, .null, .int (jI 0)]))] (bX1 E o) 2 16 := by
  refine jMN_of (cc := cX1_init) (maxL := 1) [(0, .ref o)] (by decide) rfl rfl (Nat.le_of_ble_eq_true rfl) rfl (fun C hi hO => ?_)
  show jG nX1_init E C (jQn E C (bX1 E o) 2 16) 0 0 0 [(0, .ref o)] [] [(o, .inr (1, [.null, .null, .int (jI 0)]))]
  refine j_aload_n 0 1 dX1_init_0 rfl rfl ?_
  refine j_objInit 4 (List.mem_of_getElem? (i := 1) rfl) (List.mem_of_getElem? (i := 2) rfl) (List.mem_of_getElem? (i := 3) rfl) ⟨(Nat.le_of_ble_eq_true rfl), (Nat.le_of_ble_eq_true rfl)⟩ dX1_init_1 rfl ?_
  refine j_aload_n 0 5 dX1_init_4 rfl rfl ?_
  refine j_bipush 7 dX1_init_5 rfl (by decide) ?_
  refine j_newaI 8 9 rfl (Nat.le_of_ble_eq_true rfl) (List.mem_of_getElem? (i := 4) rfl) (Nat.le_of_ble_eq_true rfl) (Nat.le_of_ble_eq_true rfl) dX1_init_7 rfl (fun q7 => ?_)
  refine j_putF 0 0 5 12 [(_, .inr (_, [_, _, _])), _] tyX1 tyX1_ok nmX1 in_X1_init_X1 hi dX1_init_9 rfl rfl rfl (by decide) rfl rfl rfl rfl rfl rfl (Nat.le_of_ble_eq_true rfl) rfl ?_
  refine j_aload_n 0 13 dX1_init_12 rfl rfl ?_
  refine j_bipush 15 dX1_init_13 rfl (by decide) ?_
  refine j_newaI 8 17 rfl (Nat.le_of_ble_eq_true rfl) (List.mem_of_getElem? (i := 4) rfl) (Nat.le_of_ble_eq_true rfl) (Nat.le_of_ble_eq_true rfl) dX1_init_15 rfl (fun q15 => ?_)
  refine j_putF 0 1 6 20 [(_, .inr (_, [_, _, _])), _, _] tyX1 tyX1_ok nmX1 in_X1_init_X1 hi dX1_init_17 rfl rfl rfl (by decide) rfl rfl rfl rfl rfl rfl (Nat.le_of_ble_eq_true rfl) rfl ?_
  refine j_aload_n 0 21 dX1_init_20 rfl rfl ?_
  refine j_iconst 22 dX1_init_21 rfl ?_
  refine j_put 0 2 7 25 [(_, .inr (_, [_, _, _])), _, _] tyX1 tyX1_ok nmX1 in_X1_init_X1 dX1_init_22 rfl rfl rfl (by decide) rfl rfl rfl rfl rfl (Nat.le_of_ble_eq_true rfl) rfl ?_
  exact j_nret (q7, q15) dX1_init_25 rfl rfl
def rnX0_init : Room := { frames := 1, cells := 3, slots := 48, locals := 14 }
abbrev nX0_init : jM := (cX0_init, wsX0_init, yX0_init.cls, 2, none, rnX0_init)
set_option maxRecDepth 20000 in
theorem in_X0_init_X0 : ∀ x ∈ u_ws RX0 TX0 3, x ∈ wsX0_init := by decide +kernel
set_option maxRecDepth 100000 in
set_option maxHeartbeats 4000000 in
theorem c_X0_init (E : jE) (o : Nat) : jMN E yX0_init wsX0_init rnX0_init [.ref o] [(o, .inr (0, [.null, .null, .null]))] (bX0 E o) 3 48 := by
  refine jMN_of (cc := cX0_init) (maxL := 2) [(0, .ref o)] (by decide) rfl rfl (Nat.le_of_ble_eq_true rfl) rfl (fun C hi hO => ?_)
  show jG nX0_init E C (jQn E C (bX0 E o) 3 48) 0 0 0 [(0, .ref o)] [] [(o, .inr (0, [.null, .null, .null]))]
  refine j_aload_n 0 1 dX0_init_0 rfl rfl ?_
  refine j_objInit 4 (List.mem_of_getElem? (i := 1) rfl) (List.mem_of_getElem? (i := 2) rfl) (List.mem_of_getElem? (i := 3) rfl) ⟨(Nat.le_of_ble_eq_true rfl), (Nat.le_of_ble_eq_true rfl)⟩ dX0_init_1 rfl ?_
  refine j_aload_n 0 5 dX0_init_4 rfl rfl ?_
  refine j_bipush 7 dX0_init_5 rfl (by decide) ?_
  refine j_newaI 12 9 rfl (Nat.le_of_ble_eq_true rfl) (List.mem_of_getElem? (i := 4) rfl) (Nat.le_of_ble_eq_true rfl) (Nat.le_of_ble_eq_true rfl) dX0_init_7 rfl (fun q7 => ?_)
  refine j_putF 0 0 5 12 [(_, .inr (_, [_, _, _])), _] tyX0 tyX0_ok nmX0 in_X0_init_X0 hi dX0_init_9 rfl rfl rfl (by decide) rfl rfl rfl rfl rfl rfl (Nat.le_of_ble_eq_true rfl) rfl ?_
  refine j_aload_n 0 13 dX0_init_12 rfl rfl ?_
  refine j_bipush 15 dX0_init_13 rfl (by decide) ?_
  refine j_newaI 12 17 rfl (Nat.le_of_ble_eq_true rfl) (List.mem_of_getElem? (i := 4) rfl) (Nat.le_of_ble_eq_true rfl) (Nat.le_of_ble_eq_true rfl) dX0_init_15 rfl (fun q15 => ?_)
  refine j_putF 0 1 6 20 [(_, .inr (_, [_, _, _])), _, _] tyX0 tyX0_ok nmX0 in_X0_init_X0 hi dX0_init_17 rfl rfl rfl (by decide) rfl rfl rfl rfl rfl rfl (Nat.le_of_ble_eq_true rfl) rfl ?_
  refine j_aload_n 0 21 dX0_init_20 rfl rfl ?_
  refine j_bipush 23 dX0_init_21 rfl (by decide) ?_
  refine j_newaI 24 25 rfl (Nat.le_of_ble_eq_true rfl) (List.mem_of_getElem? (i := 4) rfl) (Nat.le_of_ble_eq_true rfl) (Nat.le_of_ble_eq_true rfl) dX0_init_23 rfl (fun q23 => ?_)
  refine j_putF 0 2 7 28 [(_, .inr (_, [_, _, _])), _, _, _] tyX0 tyX0_ok nmX0 in_X0_init_X0 hi dX0_init_25 rfl rfl rfl (by decide) rfl rfl rfl rfl rfl rfl (Nat.le_of_ble_eq_true rfl) rfl ?_
  refine j_iconst 29 dX0_init_28 rfl ?_
  refine j_istore_n 30 [_, _] dX0_init_29 rfl (by decide) rfl ?_
  have key : ∀ (r : Nat) (i : Int) (g : Int → Int), 0 ≤ i → i + r = 12 → (∀ j, 0 ≤ j → j < i → g j = -1) → jG nX0_init E C (jQn E C (bX0 E o) 3 48) 3 48 30 [(1, .int (jI i)), (0, .ref o)] [] [(o, .inr (0, [.ref q7, .ref q15, .ref q23])), (q7, .inl (E.2.1, 12, .inl (jA zF))), (q15, .inl (E.2.1, 12, .inl (jA g))), (q23, .inl (E.2.1, 24, .inl (jA zF)))] := by
    intro r
    induction r with
    | zero =>
      intro i g h0 h1 h2
      refine j_iload_n 0 31 dX0_init_30 rfl rfl ?_
      refine j_bipush 33 dX0_init_31 rfl (by decide) ?_
      refine j_icmp_ge 49 36 dX0_init_33 rfl (by decide) (by omega) (by decide) (fun _ => ?_) (fun h => absurd h (by omega))
      refine j_eqv (w' := wBelt E o q7 q15 q23 zF gNo zF) (jEqR (jEqR (jEqA (fun j hj => h2 j hj.1 (by omega)) (jEqR jEq0)))) ?_
      exact j_nret (q7, q15, q23) dX0_init_49 rfl rfl
    | succ r ih =>
      intro i g h0 h1 h2
      refine j_iload_n 0 31 dX0_init_30 rfl rfl ?_
      refine j_bipush 33 dX0_init_31 rfl (by decide) ?_
      refine j_icmp_ge 49 36 dX0_init_33 rfl (by decide) (by omega) (by decide) (fun h => absurd h (by omega)) (fun _ => ?_)
      refine j_aload_n 1 37 dX0_init_36 rfl rfl ?_
      refine j_get 0 1 6 40 in_X0_init_X0 dX0_init_37 rfl rfl rfl (by decide) rfl rfl ?_
      refine j_iload_n 0 41 dX0_init_40 rfl rfl ?_
      refine j_iconst 42 dX0_init_41 rfl ?_
      refine j_iast 2 43 [_, _, _, _] dX0_init_42 rfl rfl (by decide) (by omega) rfl ?_
      refine j_iinc 0 46 [_, _] dX0_init_43 rfl rfl (by decide) rfl ?_
      refine j_goto 30 dX0_init_46 (by decide) ?_
      refine ih (i + 1) (jU g i (-1)) (by omega) (by omega) (fun j j0 j1 => ?_)
      by_cases q : j = i
      · rw [q, jU_at]
      · rw [jU_ne q]
        exact h2 j j0 (by omega)
  exact key 12 0 zF (by omega) (by omega) (fun j j0 j1 => absurd j1 (by omega))
def rnX2_init : Room := { frames := 1, cells := 2, slots := 597, locals := 14 }
abbrev nX2_init : jM := (cX2_init, wsX2_init, yX2_init.cls, 1, none, rnX2_init)
set_option maxRecDepth 20000 in
theorem in_X2_init_X2 : ∀ x ∈ u_ws RX2 TX2 2, x ∈ wsX2_init := by decide +kernel
set_option maxRecDepth 100000 in
set_option maxHeartbeats 4000000 in
theorem c_X2_init (E : jE) (o : Nat) : jMN E yX2_init wsX2_init rnX2_init [.ref o] [(o, .inr (2, [.null, .null]))] (bX2 E o) 2 597 := by
  refine jMN_of (cc := cX2_init) (maxL := 1) [(0, .ref o)] (by decide) rfl rfl (Nat.le_of_ble_eq_true rfl) rfl (fun C hi hO => ?_)
  show jG nX2_init E C (jQn E C (bX2 E o) 2 597) 0 0 0 [(0, .ref o)] [] [(o, .inr (2, [.null, .null]))]
  refine j_aload_n 0 1 dX2_init_0 rfl rfl ?_
  refine j_objInit 4 (List.mem_of_getElem? (i := 1) rfl) (List.mem_of_getElem? (i := 2) rfl) (List.mem_of_getElem? (i := 3) rfl) ⟨(Nat.le_of_ble_eq_true rfl), (Nat.le_of_ble_eq_true rfl)⟩ dX2_init_1 rfl ?_
  refine j_aload_n 0 5 dX2_init_4 rfl rfl ?_
  refine j_iconst 6 dX2_init_5 rfl ?_
  refine j_newaI 5 8 rfl (Nat.le_of_ble_eq_true rfl) (List.mem_of_getElem? (i := 4) rfl) (Nat.le_of_ble_eq_true rfl) (Nat.le_of_ble_eq_true rfl) dX2_init_6 rfl (fun q6 => ?_)
  refine j_putF 0 0 5 11 [(_, .inr (_, [_, _])), _] tyX2 tyX2_ok nmX2 in_X2_init_X2 hi dX2_init_8 rfl rfl rfl (by decide) rfl rfl rfl rfl rfl rfl (Nat.le_of_ble_eq_true rfl) rfl ?_
  refine j_aload_n 0 12 dX2_init_11 rfl rfl ?_
  refine j_sipush 15 dX2_init_12 rfl (by decide) ?_
  refine j_newaI 592 17 rfl (Nat.le_of_ble_eq_true rfl) (List.mem_of_getElem? (i := 4) rfl) (Nat.le_of_ble_eq_true rfl) (Nat.le_of_ble_eq_true rfl) dX2_init_15 rfl (fun q15 => ?_)
  refine j_putF 0 1 6 20 [(_, .inr (_, [_, _])), _, _] tyX2 tyX2_ok nmX2 in_X2_init_X2 hi dX2_init_17 rfl rfl rfl (by decide) rfl rfl rfl rfl rfl rfl (Nat.le_of_ble_eq_true rfl) rfl ?_
  exact j_nret (q6, q15) dX2_init_20 rfl rfl
def rnX4_init : Room := { frames := 1, cells := 3, slots := 180, locals := 14 }
abbrev nX4_init : jM := (cX4_init, wsX4_init, yX4_init.cls, 1, none, rnX4_init)
set_option maxRecDepth 20000 in
theorem in_X4_init_X4 : ∀ x ∈ u_ws RX4 TX4 8, x ∈ wsX4_init := by decide +kernel
set_option maxRecDepth 100000 in
set_option maxHeartbeats 4000000 in
theorem c_X4_init (E : jE) (o : Nat) : jMN E yX4_init wsX4_init rnX4_init [.ref o] [(o, .inr (4, [.null, .null, .null, .int (jI 0), .int (jI 0), .int (jI 0), .int (jI 0), .int (jI 0)]))] (bX4 E o) 3 180 := by
  refine jMN_of (cc := cX4_init) (maxL := 1) [(0, .ref o)] (by decide) rfl rfl (Nat.le_of_ble_eq_true rfl) rfl (fun C hi hO => ?_)
  show jG nX4_init E C (jQn E C (bX4 E o) 3 180) 0 0 0 [(0, .ref o)] [] [(o, .inr (4, [.null, .null, .null, .int (jI 0), .int (jI 0), .int (jI 0), .int (jI 0), .int (jI 0)]))]
  refine j_aload_n 0 1 dX4_init_0 rfl rfl ?_
  refine j_objInit 4 (List.mem_of_getElem? (i := 1) rfl) (List.mem_of_getElem? (i := 2) rfl) (List.mem_of_getElem? (i := 3) rfl) ⟨(Nat.le_of_ble_eq_true rfl), (Nat.le_of_ble_eq_true rfl)⟩ dX4_init_1 rfl ?_
  refine j_aload_n 0 5 dX4_init_4 rfl rfl ?_
  refine j_bipush 7 dX4_init_5 rfl (by decide) ?_
  refine j_newaI 60 9 rfl (Nat.le_of_ble_eq_true rfl) (List.mem_of_getElem? (i := 4) rfl) (Nat.le_of_ble_eq_true rfl) (Nat.le_of_ble_eq_true rfl) dX4_init_7 rfl (fun q7 => ?_)
  refine j_putF 0 0 5 12 [(_, .inr (_, [_, _, _, _, _, _, _, _])), _] tyX4 tyX4_ok nmX4 in_X4_init_X4 hi dX4_init_9 rfl rfl rfl (by decide) rfl rfl rfl rfl rfl rfl (Nat.le_of_ble_eq_true rfl) rfl ?_
  refine j_aload_n 0 13 dX4_init_12 rfl rfl ?_
  refine j_bipush 15 dX4_init_13 rfl (by decide) ?_
  refine j_newaI 60 17 rfl (Nat.le_of_ble_eq_true rfl) (List.mem_of_getElem? (i := 4) rfl) (Nat.le_of_ble_eq_true rfl) (Nat.le_of_ble_eq_true rfl) dX4_init_15 rfl (fun q15 => ?_)
  refine j_putF 0 1 6 20 [(_, .inr (_, [_, _, _, _, _, _, _, _])), _, _] tyX4 tyX4_ok nmX4 in_X4_init_X4 hi dX4_init_17 rfl rfl rfl (by decide) rfl rfl rfl rfl rfl rfl (Nat.le_of_ble_eq_true rfl) rfl ?_
  refine j_aload_n 0 21 dX4_init_20 rfl rfl ?_
  refine j_bipush 23 dX4_init_21 rfl (by decide) ?_
  refine j_newaI 60 25 rfl (Nat.le_of_ble_eq_true rfl) (List.mem_of_getElem? (i := 4) rfl) (Nat.le_of_ble_eq_true rfl) (Nat.le_of_ble_eq_true rfl) dX4_init_23 rfl (fun q23 => ?_)
  refine j_putF 0 2 7 28 [(_, .inr (_, [_, _, _, _, _, _, _, _])), _, _, _] tyX4 tyX4_ok nmX4 in_X4_init_X4 hi dX4_init_25 rfl rfl rfl (by decide) rfl rfl rfl rfl rfl rfl (Nat.le_of_ble_eq_true rfl) rfl ?_
  refine j_aload_n 0 29 dX4_init_28 rfl rfl ?_
  refine j_iconst 30 dX4_init_29 rfl ?_
  refine j_put 0 3 8 33 [(_, .inr (_, [_, _, _, _, _, _, _, _])), _, _, _] tyX4 tyX4_ok nmX4 in_X4_init_X4 dX4_init_30 rfl rfl rfl (by decide) rfl rfl rfl rfl rfl (Nat.le_of_ble_eq_true rfl) rfl ?_
  refine j_aload_n 0 34 dX4_init_33 rfl rfl ?_
  refine j_iconst 35 dX4_init_34 rfl ?_
  refine j_put 0 4 9 38 [(_, .inr (_, [_, _, _, _, _, _, _, _])), _, _, _] tyX4 tyX4_ok nmX4 in_X4_init_X4 dX4_init_35 rfl rfl rfl (by decide) rfl rfl rfl rfl rfl (Nat.le_of_ble_eq_true rfl) rfl ?_
  refine j_aload_n 0 39 dX4_init_38 rfl rfl ?_
  refine j_iconst 40 dX4_init_39 rfl ?_
  refine j_put 0 5 10 43 [(_, .inr (_, [_, _, _, _, _, _, _, _])), _, _, _] tyX4 tyX4_ok nmX4 in_X4_init_X4 dX4_init_40 rfl rfl rfl (by decide) rfl rfl rfl rfl rfl (Nat.le_of_ble_eq_true rfl) rfl ?_
  refine j_aload_n 0 44 dX4_init_43 rfl rfl ?_
  refine j_iconst 45 dX4_init_44 rfl ?_
  refine j_put 0 6 11 48 [(_, .inr (_, [_, _, _, _, _, _, _, _])), _, _, _] tyX4 tyX4_ok nmX4 in_X4_init_X4 dX4_init_45 rfl rfl rfl (by decide) rfl rfl rfl rfl rfl (Nat.le_of_ble_eq_true rfl) rfl ?_
  refine j_aload_n 0 49 dX4_init_48 rfl rfl ?_
  refine j_iconst 50 dX4_init_49 rfl ?_
  refine j_put 0 7 12 53 [(_, .inr (_, [_, _, _, _, _, _, _, _])), _, _, _] tyX4 tyX4_ok nmX4 in_X4_init_X4 dX4_init_50 rfl rfl rfl (by decide) rfl rfl rfl rfl rfl (Nat.le_of_ble_eq_true rfl) rfl ?_
  exact j_nret (q7, q15, q23) dX4_init_53 rfl rfl
def rnX5_init : Room := { frames := 2, cells := 12, slots := 676, locals := 35 }
abbrev nX5_init : jM := (cX5_init, wsX5_init, yX5_init.cls, 1, none, rnX5_init)
set_option maxRecDepth 20000 in
theorem in_X5_init_X1 : ∀ x ∈ u_ws RX1 TX1 3, x ∈ wsX5_init := by decide +kernel
theorem knX5_init_X1_init : jKn nX5_init yX1_init wsX1_init rnX1_init 2 16 := ⟨gX5_init_X1_init_n11, ⟨_, _, _, rfl, by decide⟩, by decide +kernel, ⟨rfl, rfl, by decide⟩, rfl, (List.mem_of_getElem? (i := 6) rfl), (List.mem_of_getElem? (i := 26) rfl)⟩
set_option maxRecDepth 20000 in
theorem in_X5_init_X5 : ∀ x ∈ u_ws RX5 TX5 11, x ∈ wsX5_init := by decide +kernel
set_option maxRecDepth 20000 in
theorem in_X5_init_X0 : ∀ x ∈ u_ws RX0 TX0 3, x ∈ wsX5_init := by decide +kernel
theorem knX5_init_X0_init : jKn nX5_init yX0_init wsX0_init rnX0_init 3 48 := ⟨gX5_init_X0_init, ⟨_, _, _, rfl, by decide⟩, by decide +kernel, ⟨rfl, rfl, by decide⟩, rfl, (List.mem_of_getElem? (i := 10) rfl), (List.mem_of_getElem? (i := 33) rfl)⟩
set_option maxRecDepth 20000 in
theorem in_X5_init_X2 : ∀ x ∈ u_ws RX2 TX2 2, x ∈ wsX5_init := by decide +kernel
theorem knX5_init_X2_init : jKn nX5_init yX2_init wsX2_init rnX2_init 2 597 := ⟨gX5_init_X2_init_n27, ⟨_, _, _, rfl, by decide⟩, by decide +kernel, ⟨rfl, rfl, by decide⟩, rfl, (List.mem_of_getElem? (i := 14) rfl), (List.mem_of_getElem? (i := 39) rfl)⟩
set_option maxRecDepth 100000 in
set_option maxHeartbeats 4000000 in
theorem c_X5_init (E : jE) (o : Nat) : jMN E yX5_init wsX5_init rnX5_init [.ref o] [(o, .inr (5, [.null, .null, .null, .null, .null, .int (jI 0), .int (jI 0), .int (jI 0), .int (jI 0), .int (jI 0), .int (jI 0)]))] (bX5 E o) 12 676 := by
  refine jMN_of (cc := cX5_init) (maxL := 1) [(0, .ref o)] (by decide) rfl rfl (Nat.le_of_ble_eq_true rfl) rfl (fun C hi hO => ?_)
  show jG nX5_init E C (jQn E C (bX5 E o) 12 676) 0 0 0 [(0, .ref o)] [] [(o, .inr (5, [.null, .null, .null, .null, .null, .int (jI 0), .int (jI 0), .int (jI 0), .int (jI 0), .int (jI 0), .int (jI 0)]))]
  refine j_aload_n 0 1 dX5_init_0 rfl rfl ?_
  refine j_objInit 4 (List.mem_of_getElem? (i := 1) rfl) (List.mem_of_getElem? (i := 2) rfl) (List.mem_of_getElem? (i := 3) rfl) ⟨(Nat.le_of_ble_eq_true rfl), (Nat.le_of_ble_eq_true rfl)⟩ dX5_init_1 rfl ?_
  refine j_aload_n 0 5 dX5_init_4 rfl rfl ?_
  refine j_new (ci := 1) (Cn := RX1) (T := TX1) (N := 3) [.null, .null, .int (jI 0)] 8 tyX1 tyX1_ok in_X5_init_X1 (List.mem_of_getElem? (i := 4) rfl) (List.mem_of_getElem? (i := 5) rfl) (List.mem_of_getElem? (i := 6) rfl) rfl vnX1 (Nat.le_of_ble_eq_true rfl) (Nat.le_of_ble_eq_true rfl) dX5_init_5 rfl (fun q5 => ?_)
  refine j_dup 9 dX5_init_8 rfl rfl ?_
  refine j_initN 1 12 (c_X1_init E _) hO knX5_init_X1_init rfl (Nat.le_of_ble_eq_true rfl) ⟨(Nat.le_of_ble_eq_true rfl), (Nat.le_of_ble_eq_true rfl)⟩ dX5_init_9 rfl (fun u9 => ?_)
  refine j_putF 0 0 7 15 [(_, .inr (_, [_, _, _, _, _, _, _, _, _, _, _])), _, _, _] tyX5 tyX5_ok nmX5 in_X5_init_X5 hi dX5_init_12 rfl rfl rfl (by decide) rfl rfl rfl rfl rfl rfl (Nat.le_of_ble_eq_true rfl) rfl ?_
  refine j_aload_n 0 16 dX5_init_15 rfl rfl ?_
  refine j_new (ci := 0) (Cn := RX0) (T := TX0) (N := 3) [.null, .null, .null] 19 tyX0 tyX0_ok in_X5_init_X0 (List.mem_of_getElem? (i := 8) rfl) (List.mem_of_getElem? (i := 9) rfl) (List.mem_of_getElem? (i := 10) rfl) rfl vnX0 (Nat.le_of_ble_eq_true rfl) (Nat.le_of_ble_eq_true rfl) dX5_init_16 rfl (fun q16 => ?_)
  refine j_dup 20 dX5_init_19 rfl rfl ?_
  refine j_init 23 (c_X0_init E _) hO knX5_init_X0_init (List.mem_of_getElem? (i := 32) rfl) (Nat.le_of_ble_eq_true rfl) ⟨(Nat.le_of_ble_eq_true rfl), (Nat.le_of_ble_eq_true rfl)⟩ dX5_init_20 rfl (fun u20 => ?_)
  refine j_putF 0 1 11 26 [(_, .inr (_, [_, _, _, _, _, _, _, _, _, _, _])), _, _, _, _, _, _, _] tyX5 tyX5_ok nmX5 in_X5_init_X5 hi dX5_init_23 rfl rfl rfl (by decide) rfl rfl rfl rfl rfl rfl (Nat.le_of_ble_eq_true rfl) rfl ?_
  refine j_aload_n 0 27 dX5_init_26 rfl rfl ?_
  refine j_new (ci := 2) (Cn := RX2) (T := TX2) (N := 2) [.null, .null] 30 tyX2 tyX2_ok in_X5_init_X2 (List.mem_of_getElem? (i := 12) rfl) (List.mem_of_getElem? (i := 13) rfl) (List.mem_of_getElem? (i := 14) rfl) rfl vnX2 (Nat.le_of_ble_eq_true rfl) (Nat.le_of_ble_eq_true rfl) dX5_init_27 rfl (fun q27 => ?_)
  refine j_dup 31 dX5_init_30 rfl rfl ?_
  refine j_initN 2 34 (c_X2_init E _) hO knX5_init_X2_init rfl (Nat.le_of_ble_eq_true rfl) ⟨(Nat.le_of_ble_eq_true rfl), (Nat.le_of_ble_eq_true rfl)⟩ dX5_init_31 rfl (fun u31 => ?_)
  refine j_putF 0 2 15 37 [(_, .inr (_, [_, _, _, _, _, _, _, _, _, _, _])), _, _, _, _, _, _, _, _, _, _] tyX5 tyX5_ok nmX5 in_X5_init_X5 hi dX5_init_34 rfl rfl rfl (by decide) rfl rfl rfl rfl rfl rfl (Nat.le_of_ble_eq_true rfl) rfl ?_
  refine j_aload_n 0 38 dX5_init_37 rfl rfl ?_
  refine j_iconst 39 dX5_init_38 rfl ?_
  refine j_newaI 3 41 rfl (Nat.le_of_ble_eq_true rfl) (List.mem_of_getElem? (i := 16) rfl) (Nat.le_of_ble_eq_true rfl) (Nat.le_of_ble_eq_true rfl) dX5_init_39 rfl (fun q39 => ?_)
  refine j_dup 42 dX5_init_41 rfl rfl ?_
  refine j_iconst 43 dX5_init_42 rfl ?_
  refine j_iconst 44 dX5_init_43 rfl ?_
  refine j_iast 11 45 [_, _, _, _, _, _, _, _, _, _, _, _] dX5_init_44 rfl rfl (by decide) (by decide) rfl ?_
  refine j_dup 46 dX5_init_45 rfl rfl ?_
  refine j_iconst 47 dX5_init_46 rfl ?_
  refine j_iconst 48 dX5_init_47 rfl ?_
  refine j_iast 11 49 [_, _, _, _, _, _, _, _, _, _, _, _] dX5_init_48 rfl rfl (by decide) (by decide) rfl ?_
  refine j_dup 50 dX5_init_49 rfl rfl ?_
  refine j_iconst 51 dX5_init_50 rfl ?_
  refine j_bipush 53 dX5_init_51 rfl (by decide) ?_
  refine j_iast 11 54 [_, _, _, _, _, _, _, _, _, _, _, _] dX5_init_53 rfl rfl (by decide) (by decide) rfl ?_
  refine j_putF 0 3 17 57 [(_, .inr (_, [_, _, _, _, _, _, _, _, _, _, _])), _, _, _, _, _, _, _, _, _, _, _] tyX5 tyX5_ok nmX5 in_X5_init_X5 hi dX5_init_54 rfl rfl rfl (by decide) rfl rfl rfl rfl rfl rfl (Nat.le_of_ble_eq_true rfl) rfl ?_
  refine j_aload_n 0 58 dX5_init_57 rfl rfl ?_
  refine j_iconst 59 dX5_init_58 rfl ?_
  refine j_newaZ 4 61 rfl (Nat.le_of_ble_eq_true rfl) (List.mem_of_getElem? (i := 18) rfl) (Nat.le_of_ble_eq_true rfl) (Nat.le_of_ble_eq_true rfl) dX5_init_59 rfl (fun q59 => ?_)
  refine j_dup 62 dX5_init_61 rfl rfl ?_
  refine j_iconst 63 dX5_init_62 rfl ?_
  refine j_iconst 64 dX5_init_63 rfl ?_
  refine j_zast 12 65 [_, _, _, _, _, _, _, _, _, _, _, _, _] dX5_init_64 rfl rfl (by decide) (by decide) (Or.inr rfl) rfl ?_
  refine j_dup 66 dX5_init_65 rfl rfl ?_
  refine j_iconst 67 dX5_init_66 rfl ?_
  refine j_iconst 68 dX5_init_67 rfl ?_
  refine j_zast 12 69 [_, _, _, _, _, _, _, _, _, _, _, _, _] dX5_init_68 rfl rfl (by decide) (by decide) (Or.inr rfl) rfl ?_
  refine j_dup 70 dX5_init_69 rfl rfl ?_
  refine j_iconst 71 dX5_init_70 rfl ?_
  refine j_iconst 72 dX5_init_71 rfl ?_
  refine j_zast 12 73 [_, _, _, _, _, _, _, _, _, _, _, _, _] dX5_init_72 rfl rfl (by decide) (by decide) (Or.inr rfl) rfl ?_
  refine j_dup 74 dX5_init_73 rfl rfl ?_
  refine j_iconst 75 dX5_init_74 rfl ?_
  refine j_iconst 76 dX5_init_75 rfl ?_
  refine j_zast 12 77 [_, _, _, _, _, _, _, _, _, _, _, _, _] dX5_init_76 rfl rfl (by decide) (by decide) (Or.inr rfl) rfl ?_
  refine j_putF 0 4 19 80 [(_, .inr (_, [_, _, _, _, _, _, _, _, _, _, _])), _, _, _, _, _, _, _, _, _, _, _, _] tyX5 tyX5_ok nmX5 in_X5_init_X5 hi dX5_init_77 rfl rfl rfl (by decide) rfl rfl rfl rfl rfl rfl (Nat.le_of_ble_eq_true rfl) rfl ?_
  refine j_aload_n 0 81 dX5_init_80 rfl rfl ?_
  refine j_iconst 82 dX5_init_81 rfl ?_
  refine j_put 0 5 20 85 [(_, .inr (_, [_, _, _, _, _, _, _, _, _, _, _])), _, _, _, _, _, _, _, _, _, _, _, _] tyX5 tyX5_ok nmX5 in_X5_init_X5 dX5_init_82 rfl rfl rfl (by decide) rfl rfl rfl rfl rfl (Nat.le_of_ble_eq_true rfl) rfl ?_
  refine j_aload_n 0 86 dX5_init_85 rfl rfl ?_
  refine j_iconst 87 dX5_init_86 rfl ?_
  refine j_put 0 6 21 90 [(_, .inr (_, [_, _, _, _, _, _, _, _, _, _, _])), _, _, _, _, _, _, _, _, _, _, _, _] tyX5 tyX5_ok nmX5 in_X5_init_X5 dX5_init_87 rfl rfl rfl (by decide) rfl rfl rfl rfl rfl (Nat.le_of_ble_eq_true rfl) rfl ?_
  refine j_aload_n 0 91 dX5_init_90 rfl rfl ?_
  refine j_iconst 92 dX5_init_91 rfl ?_
  refine j_put 0 7 22 95 [(_, .inr (_, [_, _, _, _, _, _, _, _, _, _, _])), _, _, _, _, _, _, _, _, _, _, _, _] tyX5 tyX5_ok nmX5 in_X5_init_X5 dX5_init_92 rfl rfl rfl (by decide) rfl rfl rfl rfl rfl (Nat.le_of_ble_eq_true rfl) rfl ?_
  refine j_aload_n 0 96 dX5_init_95 rfl rfl ?_
  refine j_iconst 97 dX5_init_96 rfl ?_
  refine j_put 0 8 23 100 [(_, .inr (_, [_, _, _, _, _, _, _, _, _, _, _])), _, _, _, _, _, _, _, _, _, _, _, _] tyX5 tyX5_ok nmX5 in_X5_init_X5 dX5_init_97 rfl rfl rfl (by decide) rfl rfl rfl rfl rfl (Nat.le_of_ble_eq_true rfl) rfl ?_
  refine j_aload_n 0 101 dX5_init_100 rfl rfl ?_
  refine j_iconst 102 dX5_init_101 rfl ?_
  refine j_put 0 9 24 105 [(_, .inr (_, [_, _, _, _, _, _, _, _, _, _, _])), _, _, _, _, _, _, _, _, _, _, _, _] tyX5 tyX5_ok nmX5 in_X5_init_X5 dX5_init_102 rfl rfl rfl (by decide) rfl rfl rfl rfl rfl (Nat.le_of_ble_eq_true rfl) rfl ?_
  refine j_aload_n 0 106 dX5_init_105 rfl rfl ?_
  refine j_iconst 107 dX5_init_106 rfl ?_
  refine j_put 0 10 25 110 [(_, .inr (_, [_, _, _, _, _, _, _, _, _, _, _])), _, _, _, _, _, _, _, _, _, _, _, _] tyX5 tyX5_ok nmX5 in_X5_init_X5 dX5_init_107 rfl rfl rfl (by decide) rfl rfl rfl rfl rfl (Nat.le_of_ble_eq_true rfl) rfl ?_
  have e7 : ∀ i : Int, 0 ≤ i ∧ i < ((3 : Nat) : Int) → jU (jU (jU zF 0 0) 1 1) 2 10 i = sNew 7 i := by
    intro i hi
    rcases (show i = 0 ∨ i = 1 ∨ i = 2 by omega) with rfl | rfl | rfl <;> rfl
  have e8 : ∀ i : Int, 0 ≤ i ∧ i < ((4 : Nat) : Int) → jU (jU (jU (jU zF 0 1) 1 1) 2 1) 3 1 i = sNew 8 i := by
    intro i hi
    rcases (show i = 0 ∨ i = 1 ∨ i = 2 ∨ i = 3 by omega) with rfl | rfl | rfl | rfl <;> rfl
  refine j_eqv (w' := bX5 E o (fun i => match i with | 1 => q5 | 2 => u9.1 | 3 => u9.2 | 4 => q16 | 5 => u20.1 | 6 => u20.2.1 | 7 => u20.2.2 | 8 => q27 | 9 => u31.1 | 10 => u31.2 | 11 => q39 | _ => q59)) (jEqR (jEqR (jEqR (jEqR (jEqR (jEqR (jEqR (jEqR (jEqR (jEqR (jEqR (jEqA e7 (jEqA e8 jEq0))))))))))))) ?_
  exact j_nret _ dX5_init_110 rfl rfl
def rnX3_init : Room := { frames := 3, cells := 53, slots := 2752, locals := 55 }
abbrev nX3_init : jM := (cX3_init, wsX3_init, yX3_init.cls, 2, none, rnX3_init)
set_option maxRecDepth 20000 in
theorem in_X3_init_X3 : ∀ x ∈ u_ws RX3 TX3 3, x ∈ wsX3_init := by decide +kernel
set_option maxRecDepth 20000 in
theorem in_X3_init_X5 : ∀ x ∈ u_ws RX5 TX5 11, x ∈ wsX3_init := by decide +kernel
theorem knX3_init_X5_init : jKn nX3_init yX5_init wsX5_init rnX5_init 12 676 := ⟨gX3_init_X5_init_n24, ⟨_, _, _, rfl, by decide⟩, by decide +kernel, ⟨rfl, rfl, by decide⟩, rfl, (List.mem_of_getElem? (i := 9) rfl), (List.mem_of_getElem? (i := 10) rfl)⟩
set_option maxRecDepth 100000 in
set_option maxHeartbeats 4000000 in
theorem c_X3_init (E : jE) (o : Nat) : jMN E yX3_init wsX3_init rnX3_init [.ref o] [(o, .inr (3, [.null, .int (jI 0), .int (jI 0)]))] (bX3 E o) 53 2752 := by
  refine jMN_of (cc := cX3_init) (maxL := 2) [(0, .ref o)] (by decide) rfl rfl (Nat.le_of_ble_eq_true rfl) rfl (fun C hi hO => ?_)
  show jG nX3_init E C (jQn E C (bX3 E o) 53 2752) 0 0 0 [(0, .ref o)] [] [(o, .inr (3, [.null, .int (jI 0), .int (jI 0)]))]
  refine j_aload_n 0 1 dX3_init_0 rfl rfl ?_
  refine j_objInit 4 (List.mem_of_getElem? (i := 1) rfl) (List.mem_of_getElem? (i := 2) rfl) (List.mem_of_getElem? (i := 3) rfl) ⟨(Nat.le_of_ble_eq_true rfl), (Nat.le_of_ble_eq_true rfl)⟩ dX3_init_1 rfl ?_
  refine j_aload_n 0 5 dX3_init_4 rfl rfl ?_
  refine j_iconst 6 dX3_init_5 rfl ?_
  refine j_newq 4 9 rfl (Nat.le_of_ble_eq_true rfl) hO (List.mem_of_getElem? (i := 4) rfl) (Nat.le_of_ble_eq_true rfl) (Nat.le_of_ble_eq_true rfl) dX3_init_6 rfl (fun q6 => ?_)
  refine j_putF 0 0 5 12 [(_, .inr (_, [_, _, _])), _] tyX3 tyX3_ok nmX3 in_X3_init_X3 hi dX3_init_9 rfl rfl rfl (by decide) rfl rfl rfl rfl rfl rfl (Nat.le_of_ble_eq_true rfl) rfl ?_
  refine j_aload_n 0 13 dX3_init_12 rfl rfl ?_
  refine j_iconst 14 dX3_init_13 rfl ?_
  refine j_put 0 1 6 17 [(_, .inr (_, [_, _, _])), _] tyX3 tyX3_ok nmX3 in_X3_init_X3 dX3_init_14 rfl rfl rfl (by decide) rfl rfl rfl rfl rfl (Nat.le_of_ble_eq_true rfl) rfl ?_
  refine j_aload_n 0 18 dX3_init_17 rfl rfl ?_
  refine j_iconst 19 dX3_init_18 rfl ?_
  refine j_put 0 2 7 22 [(_, .inr (_, [_, _, _])), _] tyX3 tyX3_ok nmX3 in_X3_init_X3 dX3_init_19 rfl rfl rfl (by decide) rfl rfl rfl rfl rfl (Nat.le_of_ble_eq_true rfl) rfl ?_
  refine j_iconst 23 dX3_init_22 rfl ?_
  refine j_istore_n 24 [_, _] dX3_init_23 rfl (by decide) rfl ?_
  refine j_iload_n 0 25 dX3_init_24 rfl rfl ?_
  refine j_iconst 26 dX3_init_25 rfl ?_
  refine j_icmp_ge 48 29 dX3_init_26 rfl (by decide) (by decide) (by decide) (fun h => absurd h (by decide)) (fun _ => ?_)
  refine j_aload_n 1 30 dX3_init_29 rfl rfl ?_
  refine j_get 0 0 5 33 in_X3_init_X3 dX3_init_30 rfl rfl rfl (by decide) rfl rfl ?_
  refine j_iload_n 0 34 dX3_init_33 rfl rfl ?_
  refine j_new (ci := 5) (Cn := RX5) (T := TX5) (N := 11) [.null, .null, .null, .null, .null, .int (jI 0), .int (jI 0), .int (jI 0), .int (jI 0), .int (jI 0), .int (jI 0)] 37 tyX5 tyX5_ok in_X3_init_X5 (List.mem_of_getElem? (i := 4) rfl) (List.mem_of_getElem? (i := 8) rfl) (List.mem_of_getElem? (i := 9) rfl) rfl vnX5 (Nat.le_of_ble_eq_true rfl) (Nat.le_of_ble_eq_true rfl) dX3_init_34 rfl (fun q34_0 => ?_)
  refine j_dup 38 dX3_init_37 rfl rfl ?_
  refine j_initN 3 41 (c_X5_init E _) hO knX3_init_X5_init rfl (Nat.le_of_ble_eq_true rfl) ⟨(Nat.le_of_ble_eq_true rfl), (Nat.le_of_ble_eq_true rfl)⟩ dX3_init_38 rfl (fun u38_0 => ?_)
  refine j_astq (T := TX5) (N := 11) (ci := 5) 1 2 42 [_, _, _, _, _, _, _, _, _, _, _, _, _, _, _] dX3_init_41 rfl rfl rfl rfl (by decide) (by decide) rfl ?_
  refine j_iinc 0 45 [_, _] dX3_init_42 rfl rfl (by decide) rfl ?_
  refine j_goto 24 dX3_init_45 (by decide) ?_
  refine j_iload_n 0 25 dX3_init_24 rfl rfl ?_
  refine j_iconst 26 dX3_init_25 rfl ?_
  refine j_icmp_ge 48 29 dX3_init_26 rfl (by decide) (by decide) (by decide) (fun h => absurd h (by decide)) (fun _ => ?_)
  refine j_aload_n 1 30 dX3_init_29 rfl rfl ?_
  refine j_get 0 0 5 33 in_X3_init_X3 dX3_init_30 rfl rfl rfl (by decide) rfl rfl ?_
  refine j_iload_n 0 34 dX3_init_33 rfl rfl ?_
  refine j_new (ci := 5) (Cn := RX5) (T := TX5) (N := 11) [.null, .null, .null, .null, .null, .int (jI 0), .int (jI 0), .int (jI 0), .int (jI 0), .int (jI 0), .int (jI 0)] 37 tyX5 tyX5_ok in_X3_init_X5 (List.mem_of_getElem? (i := 4) rfl) (List.mem_of_getElem? (i := 8) rfl) (List.mem_of_getElem? (i := 9) rfl) rfl vnX5 (Nat.le_of_ble_eq_true rfl) (Nat.le_of_ble_eq_true rfl) dX3_init_34 rfl (fun q34_1 => ?_)
  refine j_dup 38 dX3_init_37 rfl rfl ?_
  refine j_initN 3 41 (c_X5_init E _) hO knX3_init_X5_init rfl (Nat.le_of_ble_eq_true rfl) ⟨(Nat.le_of_ble_eq_true rfl), (Nat.le_of_ble_eq_true rfl)⟩ dX3_init_38 rfl (fun u38_1 => ?_)
  refine j_astq (T := TX5) (N := 11) (ci := 5) 1 15 42 [_, _, _, _, _, _, _, _, _, _, _, _, _, _, _, _, _, _, _, _, _, _, _, _, _, _, _, _] dX3_init_41 rfl rfl rfl rfl (by decide) (by decide) rfl ?_
  refine j_iinc 0 45 [_, _] dX3_init_42 rfl rfl (by decide) rfl ?_
  refine j_goto 24 dX3_init_45 (by decide) ?_
  refine j_iload_n 0 25 dX3_init_24 rfl rfl ?_
  refine j_iconst 26 dX3_init_25 rfl ?_
  refine j_icmp_ge 48 29 dX3_init_26 rfl (by decide) (by decide) (by decide) (fun h => absurd h (by decide)) (fun _ => ?_)
  refine j_aload_n 1 30 dX3_init_29 rfl rfl ?_
  refine j_get 0 0 5 33 in_X3_init_X3 dX3_init_30 rfl rfl rfl (by decide) rfl rfl ?_
  refine j_iload_n 0 34 dX3_init_33 rfl rfl ?_
  refine j_new (ci := 5) (Cn := RX5) (T := TX5) (N := 11) [.null, .null, .null, .null, .null, .int (jI 0), .int (jI 0), .int (jI 0), .int (jI 0), .int (jI 0), .int (jI 0)] 37 tyX5 tyX5_ok in_X3_init_X5 (List.mem_of_getElem? (i := 4) rfl) (List.mem_of_getElem? (i := 8) rfl) (List.mem_of_getElem? (i := 9) rfl) rfl vnX5 (Nat.le_of_ble_eq_true rfl) (Nat.le_of_ble_eq_true rfl) dX3_init_34 rfl (fun q34_2 => ?_)
  refine j_dup 38 dX3_init_37 rfl rfl ?_
  refine j_initN 3 41 (c_X5_init E _) hO knX3_init_X5_init rfl (Nat.le_of_ble_eq_true rfl) ⟨(Nat.le_of_ble_eq_true rfl), (Nat.le_of_ble_eq_true rfl)⟩ dX3_init_38 rfl (fun u38_2 => ?_)
  refine j_astq (T := TX5) (N := 11) (ci := 5) 1 28 42 [_, _, _, _, _, _, _, _, _, _, _, _, _, _, _, _, _, _, _, _, _, _, _, _, _, _, _, _, _, _, _, _, _, _, _, _, _, _, _, _, _] dX3_init_41 rfl rfl rfl rfl (by decide) (by decide) rfl ?_
  refine j_iinc 0 45 [_, _] dX3_init_42 rfl rfl (by decide) rfl ?_
  refine j_goto 24 dX3_init_45 (by decide) ?_
  refine j_iload_n 0 25 dX3_init_24 rfl rfl ?_
  refine j_iconst 26 dX3_init_25 rfl ?_
  refine j_icmp_ge 48 29 dX3_init_26 rfl (by decide) (by decide) (by decide) (fun h => absurd h (by decide)) (fun _ => ?_)
  refine j_aload_n 1 30 dX3_init_29 rfl rfl ?_
  refine j_get 0 0 5 33 in_X3_init_X3 dX3_init_30 rfl rfl rfl (by decide) rfl rfl ?_
  refine j_iload_n 0 34 dX3_init_33 rfl rfl ?_
  refine j_new (ci := 5) (Cn := RX5) (T := TX5) (N := 11) [.null, .null, .null, .null, .null, .int (jI 0), .int (jI 0), .int (jI 0), .int (jI 0), .int (jI 0), .int (jI 0)] 37 tyX5 tyX5_ok in_X3_init_X5 (List.mem_of_getElem? (i := 4) rfl) (List.mem_of_getElem? (i := 8) rfl) (List.mem_of_getElem? (i := 9) rfl) rfl vnX5 (Nat.le_of_ble_eq_true rfl) (Nat.le_of_ble_eq_true rfl) dX3_init_34 rfl (fun q34_3 => ?_)
  refine j_dup 38 dX3_init_37 rfl rfl ?_
  refine j_initN 3 41 (c_X5_init E _) hO knX3_init_X5_init rfl (Nat.le_of_ble_eq_true rfl) ⟨(Nat.le_of_ble_eq_true rfl), (Nat.le_of_ble_eq_true rfl)⟩ dX3_init_38 rfl (fun u38_3 => ?_)
  refine j_astq (T := TX5) (N := 11) (ci := 5) 1 41 42 [_, _, _, _, _, _, _, _, _, _, _, _, _, _, _, _, _, _, _, _, _, _, _, _, _, _, _, _, _, _, _, _, _, _, _, _, _, _, _, _, _, _, _, _, _, _, _, _, _, _, _, _, _, _] dX3_init_41 rfl rfl rfl rfl (by decide) (by decide) rfl ?_
  refine j_iinc 0 45 [_, _] dX3_init_42 rfl rfl (by decide) rfl ?_
  refine j_goto 24 dX3_init_45 (by decide) ?_
  refine j_iload_n 0 25 dX3_init_24 rfl rfl ?_
  refine j_iconst 26 dX3_init_25 rfl ?_
  refine j_icmp_ge 48 29 dX3_init_26 rfl (by decide) (by decide) (by decide) (fun _ => ?_) (fun h => absurd h (by decide))
  refine j_eqq (fun t => some ((jQh (jAd q34_0 u38_0) (jAd q34_1 u38_1) (jAd q34_2 u38_2) (jAd q34_3 u38_3)) t 0)) 1 [_, _, _, _, _, _, _, _, _, _, _, _, _, _, _, _, _, _, _, _, _, _, _, _, _, _, _, _, _, _, _, _, _, _, _, _, _, _, _, _, _, _, _, _, _, _, _, _, _, _, _, _, _, _] rfl (fun j hj => ?_) rfl ?_
  · rcases (show j = 0 ∨ j = 1 ∨ j = 2 ∨ j = 3 by omega) with rfl | rfl | rfl | rfl <;> rfl
  exact j_nret (q6, (jQh (jAd q34_0 u38_0) (jAd q34_1 u38_1) (jAd q34_2 u38_2) (jAd q34_3 u38_3))) dX3_init_48 rfl rfl
theorem eye_perm (a s1 s2 s3 hh h0 h1 h2 h3 p : va_W) : (a ++ (s1 ++ (s2 ++ (s3 ++ ((hh ++ (h0 ++ (h1 ++ (h2 ++ h3)))) ++ p))))).Perm (jFl [a, p, hh, s1, s2, s3, h0, h1, h2, h3]) := by
  show (a ++ (s1 ++ (s2 ++ (s3 ++ ((hh ++ (h0 ++ (h1 ++ (h2 ++ h3)))) ++ p))))).Perm (a ++ (p ++ (hh ++ (s1 ++ (s2 ++ (s3 ++ (h0 ++ (h1 ++ (h2 ++ h3)))))))))
  refine List.Perm.append_left a ?_
  have e1 : s1 ++ (s2 ++ (s3 ++ ((hh ++ (h0 ++ (h1 ++ (h2 ++ h3)))) ++ p))) = ((s1 ++ (s2 ++ s3)) ++ (hh ++ (h0 ++ (h1 ++ (h2 ++ h3))))) ++ p := by simp only [List.append_assoc]
  have e2 : hh ++ (s1 ++ (s2 ++ (s3 ++ (h0 ++ (h1 ++ (h2 ++ h3)))))) = hh ++ ((s1 ++ (s2 ++ s3)) ++ (h0 ++ (h1 ++ (h2 ++ h3)))) := by simp only [List.append_assoc]
  rw [e1, e2]
  exact List.perm_append_comm.trans (List.Perm.append_left p (List.perm_append_comm_assoc _ _ _))
def rnX7_init : Room := { frames := 4, cells := 97, slots := 5004, locals := 76 }
abbrev nX7_init : jM := (cX7_init, wsX7_init, yX7_init.cls, 1, none, rnX7_init)
set_option maxRecDepth 20000 in
theorem in_X7_init_X5 : ∀ x ∈ u_ws RX5 TX5 11, x ∈ wsX7_init := by decide +kernel
theorem knX7_init_X5_init : jKn nX7_init yX5_init wsX5_init rnX5_init 12 676 := ⟨gX7_init_X5_init_n9, ⟨_, _, _, rfl, by decide⟩, by decide +kernel, ⟨rfl, rfl, by decide⟩, rfl, (List.mem_of_getElem? (i := 6) rfl), (List.mem_of_getElem? (i := 19) rfl)⟩
set_option maxRecDepth 20000 in
theorem in_X7_init_X7 : ∀ x ∈ u_ws RX7 TX7 6, x ∈ wsX7_init := by decide +kernel
set_option maxRecDepth 20000 in
theorem in_X7_init_X3 : ∀ x ∈ u_ws RX3 TX3 3, x ∈ wsX7_init := by decide +kernel
theorem knX7_init_X3_init : jKn nX7_init yX3_init wsX3_init rnX3_init 53 2752 := ⟨gX7_init_X3_init, ⟨_, _, _, rfl, by decide⟩, by decide +kernel, ⟨rfl, rfl, by decide⟩, rfl, (List.mem_of_getElem? (i := 12) rfl), (List.mem_of_getElem? (i := 63) rfl)⟩
set_option maxRecDepth 20000 in
theorem in_X7_init_X4 : ∀ x ∈ u_ws RX4 TX4 8, x ∈ wsX7_init := by decide +kernel
theorem knX7_init_X4_init : jKn nX7_init yX4_init wsX4_init rnX4_init 3 180 := ⟨gX7_init_X4_init_n31, ⟨_, _, _, rfl, by decide⟩, by decide +kernel, ⟨rfl, rfl, by decide⟩, rfl, (List.mem_of_getElem? (i := 16) rfl), (List.mem_of_getElem? (i := 70) rfl)⟩
set_option maxRecDepth 100000 in
set_option maxHeartbeats 4000000 in
theorem c_X7_init (E : jE) (o : Nat) : jMN E yX7_init wsX7_init rnX7_init [.ref o] [(o, .inr (6, [.null, .null, .null, .null, .null, .int (jI 0)]))] (bX7 E o) 97 5004 := by
  refine jMN_of (cc := cX7_init) (maxL := 1) [(0, .ref o)] (by decide) rfl rfl (Nat.le_of_ble_eq_true rfl) rfl (fun C hi hO => ?_)
  show jG nX7_init E C (jQn E C (bX7 E o) 97 5004) 0 0 0 [(0, .ref o)] [] [(o, .inr (6, [.null, .null, .null, .null, .null, .int (jI 0)]))]
  refine j_aload_n 0 1 dX7_init_0 rfl rfl ?_
  refine j_objInit 4 (List.mem_of_getElem? (i := 1) rfl) (List.mem_of_getElem? (i := 2) rfl) (List.mem_of_getElem? (i := 3) rfl) ⟨(Nat.le_of_ble_eq_true rfl), (Nat.le_of_ble_eq_true rfl)⟩ dX7_init_1 rfl ?_
  refine j_aload_n 0 5 dX7_init_4 rfl rfl ?_
  refine j_new (ci := 5) (Cn := RX5) (T := TX5) (N := 11) [.null, .null, .null, .null, .null, .int (jI 0), .int (jI 0), .int (jI 0), .int (jI 0), .int (jI 0), .int (jI 0)] 8 tyX5 tyX5_ok in_X7_init_X5 (List.mem_of_getElem? (i := 4) rfl) (List.mem_of_getElem? (i := 5) rfl) (List.mem_of_getElem? (i := 6) rfl) rfl vnX5 (Nat.le_of_ble_eq_true rfl) (Nat.le_of_ble_eq_true rfl) dX7_init_5 rfl (fun q5 => ?_)
  refine j_dup 9 dX7_init_8 rfl rfl ?_
  refine j_initN 0 12 (c_X5_init E _) hO knX7_init_X5_init rfl (Nat.le_of_ble_eq_true rfl) ⟨(Nat.le_of_ble_eq_true rfl), (Nat.le_of_ble_eq_true rfl)⟩ dX7_init_9 rfl (fun u9 => ?_)
  refine j_putF 0 0 7 15 [(_, .inr (_, [_, _, _, _, _, _])), _, _, _, _, _, _, _, _, _, _, _, _, _] tyX7 tyX7_ok nmX7 in_X7_init_X7 hi dX7_init_12 rfl rfl rfl (by decide) rfl rfl rfl rfl rfl rfl (Nat.le_of_ble_eq_true rfl) rfl ?_
  refine j_aload_n 0 16 dX7_init_15 rfl rfl ?_
  refine j_new (ci := 5) (Cn := RX5) (T := TX5) (N := 11) [.null, .null, .null, .null, .null, .int (jI 0), .int (jI 0), .int (jI 0), .int (jI 0), .int (jI 0), .int (jI 0)] 19 tyX5 tyX5_ok in_X7_init_X5 (List.mem_of_getElem? (i := 4) rfl) (List.mem_of_getElem? (i := 5) rfl) (List.mem_of_getElem? (i := 6) rfl) rfl vnX5 (Nat.le_of_ble_eq_true rfl) (Nat.le_of_ble_eq_true rfl) dX7_init_16 rfl (fun q16 => ?_)
  refine j_dup 20 dX7_init_19 rfl rfl ?_
  refine j_initN 0 23 (c_X5_init E _) hO knX7_init_X5_init rfl (Nat.le_of_ble_eq_true rfl) ⟨(Nat.le_of_ble_eq_true rfl), (Nat.le_of_ble_eq_true rfl)⟩ dX7_init_20 rfl (fun u20 => ?_)
  refine j_putF 0 1 8 26 [(_, .inr (_, [_, _, _, _, _, _])), _, _, _, _, _, _, _, _, _, _, _, _, _, _, _, _, _, _, _, _, _, _, _, _, _, _] tyX7 tyX7_ok nmX7 in_X7_init_X7 hi dX7_init_23 rfl rfl rfl (by decide) rfl rfl rfl rfl rfl rfl (Nat.le_of_ble_eq_true rfl) rfl ?_
  refine j_aload_n 0 27 dX7_init_26 rfl rfl ?_
  refine j_new (ci := 5) (Cn := RX5) (T := TX5) (N := 11) [.null, .null, .null, .null, .null, .int (jI 0), .int (jI 0), .int (jI 0), .int (jI 0), .int (jI 0), .int (jI 0)] 30 tyX5 tyX5_ok in_X7_init_X5 (List.mem_of_getElem? (i := 4) rfl) (List.mem_of_getElem? (i := 5) rfl) (List.mem_of_getElem? (i := 6) rfl) rfl vnX5 (Nat.le_of_ble_eq_true rfl) (Nat.le_of_ble_eq_true rfl) dX7_init_27 rfl (fun q27 => ?_)
  refine j_dup 31 dX7_init_30 rfl rfl ?_
  refine j_initN 0 34 (c_X5_init E _) hO knX7_init_X5_init rfl (Nat.le_of_ble_eq_true rfl) ⟨(Nat.le_of_ble_eq_true rfl), (Nat.le_of_ble_eq_true rfl)⟩ dX7_init_31 rfl (fun u31 => ?_)
  refine j_putF 0 2 9 37 [(_, .inr (_, [_, _, _, _, _, _])), _, _, _, _, _, _, _, _, _, _, _, _, _, _, _, _, _, _, _, _, _, _, _, _, _, _, _, _, _, _, _, _, _, _, _, _, _, _, _] tyX7 tyX7_ok nmX7 in_X7_init_X7 hi dX7_init_34 rfl rfl rfl (by decide) rfl rfl rfl rfl rfl rfl (Nat.le_of_ble_eq_true rfl) rfl ?_
  refine j_aload_n 0 38 dX7_init_37 rfl rfl ?_
  refine j_new (ci := 3) (Cn := RX3) (T := TX3) (N := 3) [.null, .int (jI 0), .int (jI 0)] 41 tyX3 tyX3_ok in_X7_init_X3 (List.mem_of_getElem? (i := 10) rfl) (List.mem_of_getElem? (i := 11) rfl) (List.mem_of_getElem? (i := 12) rfl) rfl vnX3 (Nat.le_of_ble_eq_true rfl) (Nat.le_of_ble_eq_true rfl) dX7_init_38 rfl (fun q38 => ?_)
  refine j_dup 42 dX7_init_41 rfl rfl ?_
  refine j_init 45 (c_X3_init E _) hO knX7_init_X3_init (List.mem_of_getElem? (i := 62) rfl) (Nat.le_of_ble_eq_true rfl) ⟨(Nat.le_of_ble_eq_true rfl), (Nat.le_of_ble_eq_true rfl)⟩ dX7_init_42 rfl (fun u42 => ?_)
  refine j_putF 0 3 13 48 [(_, .inr (_, [_, _, _, _, _, _])), _, _, _, _, _, _, _, _, _, _, _, _, _, _, _, _, _, _, _, _, _, _, _, _, _, _, _, _, _, _, _, _, _, _, _, _, _, _, _, _, _, _, _, _, _, _, _, _, _, _, _, _, _, _, _, _, _, _, _, _, _, _, _, _, _, _, _, _, _, _, _, _, _, _, _, _, _, _, _, _, _, _, _, _, _, _, _, _, _, _, _, _, _] tyX7 tyX7_ok nmX7 in_X7_init_X7 hi dX7_init_45 rfl rfl rfl (by decide) rfl rfl rfl rfl rfl rfl (Nat.le_of_ble_eq_true rfl) rfl ?_
  refine j_aload_n 0 49 dX7_init_48 rfl rfl ?_
  refine j_new (ci := 4) (Cn := RX4) (T := TX4) (N := 8) [.null, .null, .null, .int (jI 0), .int (jI 0), .int (jI 0), .int (jI 0), .int (jI 0)] 52 tyX4 tyX4_ok in_X7_init_X4 (List.mem_of_getElem? (i := 14) rfl) (List.mem_of_getElem? (i := 15) rfl) (List.mem_of_getElem? (i := 16) rfl) rfl vnX4 (Nat.le_of_ble_eq_true rfl) (Nat.le_of_ble_eq_true rfl) dX7_init_49 rfl (fun q49 => ?_)
  refine j_dup 53 dX7_init_52 rfl rfl ?_
  refine j_initN 4 56 (c_X4_init E _) hO knX7_init_X4_init rfl (Nat.le_of_ble_eq_true rfl) ⟨(Nat.le_of_ble_eq_true rfl), (Nat.le_of_ble_eq_true rfl)⟩ dX7_init_53 rfl (fun u53 => ?_)
  refine j_putF 0 4 17 59 [(_, .inr (_, [_, _, _, _, _, _])), _, _, _, _, _, _, _, _, _, _, _, _, _, _, _, _, _, _, _, _, _, _, _, _, _, _, _, _, _, _, _, _, _, _, _, _, _, _, _, _, _, _, _, _, _, _, _, _, _, _, _, _, _, _, _, _, _, _, _, _, _, _, _, _, _, _, _, _, _, _, _, _, _, _, _, _, _, _, _, _, _, _, _, _, _, _, _, _, _, _, _, _, _, _, _, _, _] tyX7 tyX7_ok nmX7 in_X7_init_X7 hi dX7_init_56 rfl rfl rfl (by decide) rfl rfl rfl rfl rfl rfl (Nat.le_of_ble_eq_true rfl) rfl ?_
  refine j_aload_n 0 60 dX7_init_59 rfl rfl ?_
  refine j_iconst 61 dX7_init_60 rfl ?_
  refine j_put 0 5 18 64 [(_, .inr (_, [_, _, _, _, _, _])), _, _, _, _, _, _, _, _, _, _, _, _, _, _, _, _, _, _, _, _, _, _, _, _, _, _, _, _, _, _, _, _, _, _, _, _, _, _, _, _, _, _, _, _, _, _, _, _, _, _, _, _, _, _, _, _, _, _, _, _, _, _, _, _, _, _, _, _, _, _, _, _, _, _, _, _, _, _, _, _, _, _, _, _, _, _, _, _, _, _, _, _, _, _, _, _, _] tyX7 tyX7_ok nmX7 in_X7_init_X7 dX7_init_61 rfl rfl rfl (by decide) rfl rfl rfl (jB_nar2 (Or.inl rfl)) (jB_fit (Or.inl rfl)) (Nat.le_of_ble_eq_true rfl) rfl ?_
  refine j_mix (w' := bX7 E o ((fun k => match k with | 0 => jAd q5 u9 | 1 => jAd q16 u20 | 2 => jAd q27 u31 | _ => fun j => match j with | 1 => q38 | 2 => u42.1 | 3 => q49 | 4 => u53.1 | 5 => u53.2.1 | _ => u53.2.2), u42.2)) ?_ ?_
  · exact eye_perm [(o, .inr (6, [.ref q5, .ref q16, .ref q27, .ref q38, .ref q49, .int (jI 0)]))] (wState E (jAd q5 u9) sNew) (wState E (jAd q16 u20) sNew) (wState E (jAd q27 u31) sNew) (wHh E q38 u42.1 u42.2 0 0) (wState E (u42.2 0) sNew) (wState E (u42.2 1) sNew) (wState E (u42.2 2) sNew) (wState E (u42.2 3) sNew) (wPad E q49 u53.1 u53.2.1 u53.2.2 zF zF zF 0 0 0 0 0)
  · exact j_nret _ dX7_init_64 rfl rfl
