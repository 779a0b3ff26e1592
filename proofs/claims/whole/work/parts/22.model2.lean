/-! the reference: a tick, and what it reads -/
theorem Rel_dh {x : Nat → Int → Int} {f : Int → Int} {l : Int} (hx : sOK x) (hg : sGr x) (h : Rel x f) (hl : 0 ≤ l ∧ l < 4) : (0 ≤ f 3 ∧ f 3 ≤ 15) ∧ (1 ≤ f 2 ∧ f 2 ≤ 20) ∧ (0 ≤ f (85 + l) ∧ f (85 + l) ≤ 20) ∧ (-1000 ≤ f (37 + 4 * (2 + 2 * l) + 3) ∧ f (37 + 4 * (2 + 2 * l) + 3) ≤ 1000) ∧ (f (37 + 4 * (2 + 2 * l) + 3) = l + 1 → 0 ≤ f (37 + 4 * (2 + 2 * l) + 1) ∧ f (37 + 4 * (2 + 2 * l) + 1) < 404000) := by
  have r7 : (-20 ≤ x 7 0 ∧ x 7 0 ≤ 20) ∧ (0 ≤ x 7 1 ∧ x 7 1 ≤ 9) ∧ (1 ≤ x 7 2 ∧ x 7 2 ≤ 20) := hx 7
  have r3 : ∀ i, -1 ≤ x 3 i ∧ x 3 i ≤ 4 := hx 3
  have r4 : ∀ i, 0 ≤ x 4 i ∧ x 4 i < 404000 := hx 4
  have r5 : ∀ i, 0 ≤ x 5 i ∧ x 5 i ≤ 512 ∧ (i < 4 → x 5 i ≤ 20) := hx 5
  have r5l := r5 l
  have r3p := r3 (2 + 2 * l)
  have r4p := r4 (2 * (2 + 2 * l) + 0)
  have s2 := h.1.2.2
  have b := (h.2.2.2.2.1 l hl.1 (by omega)).1
  obtain ⟨c1, c2, c3⟩ := h.2.2.2.1 (2 + 2 * l) (by omega) (by omega)
  refine ⟨h.2.1.1, by omega, by omega, by omega, fun q => ?_⟩
  have g1 := hg.2 (2 + 2 * l) (by omega)
  have e := c3 0 (by omega) (by omega)
  have e2 : (37 + 4 * (2 + 2 * l) + 1 + 0 : Int) = 37 + 4 * (2 + 2 * l) + 1 := by omega
  rw [e2] at e
  omega
theorem lrU_sp (y : Int → Int) (o : Int) (n : Nat) : lrU y o n = -4 ∨ (0 ≤ lrU y o n ∧ lrU y o n ≤ 100) := by
  induction n with
  | zero => exact Or.inl rfl
  | succ n ih =>
    have := tR_rng (y (o + n))
    unfold lrU
    split <;> omega
theorem sWi_rng {x : Nat → Int → Int} (hx : sOK x) (l : Int) : 0 ≤ sWi x l ∧ sWi x l ≤ 512 := by
  have r5 : ∀ i, 0 ≤ x 5 i ∧ x 5 i ≤ 512 ∧ (i < 4 → x 5 i ≤ 20) := hx 5
  have r5l := r5 l
  have := jSum_rng (g := fun i => sWr x l (x 6 (l * 20 + i))) (b := 1) (by omega) (x 5 l).toNat (fun i _ => by have := sWr_01 x l (x 6 (l * 20 + i)); omega)
  unfold sWi
  omega
set_option maxRecDepth 20000 in
theorem in_X8_tick_X8 : ∀ x ∈ u_ws RX8 TX8 11, x ∈ wsX8_tick := by decide +kernel
theorem kX8_tick_X8_grades : jKv mX8_tick 76 yX8_grades wsX8_grades rmX8_grades 0 := ⟨gX8_tick_X8_grades, ⟨_, _, _, _, rfl, by decide⟩, by decide +kernel, rfl, rfl, by decide⟩
theorem kX8_tick_X8_moves : jKv mX8_tick 79 yX8_moves wsX8_moves rmX8_moves 0 := ⟨gX8_tick_X8_moves, ⟨_, _, _, _, rfl, by decide⟩, by decide +kernel, rfl, rfl, by decide⟩
theorem kX8_tick_X8_drops : jKv mX8_tick 83 yX8_drops wsX8_drops rmX8_drops 1 := ⟨gX8_tick_X8_drops, ⟨_, _, _, _, rfl, by decide⟩, by decide +kernel, rfl, rfl, by decide⟩
set_option maxRecDepth 100000 in
set_option maxHeartbeats 4000000 in
theorem c_X8_tick (E : jE) (o a : Nat) (fs : List Value) (f : Int → Int) (x : Nat → Int → Int) (N : Int) (hi : sInv x N) (hN : N ≤ 512) (hr : Rel x f) : jMI E yX8_tick wsX8_tick rmX8_tick [.ref o] (wMs E o a fs f) (sTickN x) (wMs E o a fs (fTick x f)) := by
  refine jMI_of (cc := cX8_tick) (maxL := 3) (ret := (some .int)) [(0, .ref o)] (by decide) rfl rfl (Nat.le_of_ble_eq_true rfl) (fun C => ?_)
  show jG mX8_tick E C (jQi E C (sTickN x) (wMs E o a fs (fTick x f))) 0 0 0 [(0, .ref o)] [] (wMs E o a fs f)
  have hx := hi.1
  have r2 : ∀ i, 0 ≤ x 2 i ∧ x 2 i ≤ 2 := hx 2
  have r3 : ∀ i, -1 ≤ x 3 i ∧ x 3 i ≤ 4 := hx 3
  have r4 : ∀ i, 0 ≤ x 4 i ∧ x 4 i < 404000 := hx 4
  have r5 : ∀ i, 0 ≤ x 5 i ∧ x 5 i ≤ 512 ∧ (i < 4 → x 5 i ≤ 20) := hx 5
  have r6 : ∀ i, 0 ≤ x 6 i ∧ x 6 i < 404000 := hx 6
  have r211 := r2 11
  have r54 := r5 4
  have h1 := Rel_tick1 hx hr
  have c0 := Rel_cup0 h1
  have t3 := Rel_t3 hi hN hr
  have i3 := sT3_inv hi hN
  have g89 : fGrade (jU f 170 (f 170 + 1)) (sGtc x) 89 = x 5 4 := by
    have := (hr.2.2.2.2.1 4 (by omega) (by omega)).1
    have e89 : f (85 + 4) = f 89 := rfl
    unfold fGrade
    split
    · rw [jU_ne (by omega), jU_ne (by omega), jU_ne (by omega)]; omega
    · rw [jU_ne (by omega)]; omega
  have ds := fun n hn => Rel_ds i3 hN t3.1 n hn
  have eT : sTickN x = x 2 11 + (sDs (sT3 x) 4).2 := rfl
  rw [eT]
  refine j_aload_n 0 1 dX8_tick_0 rfl rfl ?_
  refine j_get 0 0 1 4 in_X8_tick_X8 dX8_tick_1 rfl rfl rfl (by decide) rfl rfl ?_
  refine j_sipush 7 dX8_tick_4 rfl (by decide) ?_
  refine j_dup2 8 dX8_tick_7 rfl rfl rfl ?_
  refine j_iald 1 9 dX8_tick_8 rfl rfl (by decide) (by omega) ?_
  refine j_iconst 10 dX8_tick_9 rfl ?_
  refine j_iadd 11 dX8_tick_10 rfl ?_
  refine j_iast 1 12 [_, _] dX8_tick_11 rfl rfl (by decide) (by omega) rfl ?_
  refine j_aload_n 0 13 dX8_tick_12 rfl rfl ?_
  refine j_callVv 0 [0, 1] 16 [_, _] (c_X8_grades E o a fs _ (jS x 9 (jU (x 9) 1 (x 9 1 + 1))) (by exact sOK_9 hx (by omega)) (by exact Rel_RelR h1) (by exact c0.1) (by exact c0.2.2.1)) rfl kX8_tick_X8_grades rfl rfl rfl rfl rfl rfl rfl (Nat.le_of_ble_eq_true rfl) (by decide) dX8_tick_13 rfl ?_
  refine j_aload_n 0 17 dX8_tick_16 rfl rfl ?_
  change jG _ E C _ 0 0 17 _ _ (wMs E o a fs (fGrade (jU f 170 (f 170 + 1)) (sGtc x)))
  refine j_callVi 0 [0, 1] 20 [_, _] (c_X8_moves E _ _ _ _ (by rw [t3.2]; exact r211) (by rw [g89]; omega)) rfl kX8_tick_X8_moves rfl rfl rfl rfl rfl rfl rfl (Nat.le_of_ble_eq_true rfl) (by decide) dX8_tick_17 rfl ?_
  have e3 : fSh (fFo (fGrade (jU f 170 (f 170 + 1)) (sGtc x)) (fGrade (jU f 170 (f 170 + 1)) (sGtc x) 81).toNat) = fT3 f (sGtc x) := rfl
  rw [e3, t3.2]
  change jG _ E C _ 0 0 20 _ (.int (jI (x 2 11)) :: _) (wMs E o a fs (fT3 f (sGtc x)))
  refine j_istore_n 21 [_, _] dX8_tick_20 rfl (by decide) rfl ?_
  refine j_iconst 22 dX8_tick_21 rfl ?_
  refine j_istore_n 23 [_, _, _] dX8_tick_22 rfl (by decide) rfl ?_
  have key23 : ∀ (fu i : Nat), 4 < i + fu → (i : Int) ≤ 4 → jG mX8_tick E C (jQi E C (sTickN x) (wMs E o a fs (fTick x f))) 0 0 23 [(0, .ref o), (1, .int (jI (x 2 11 + (sDs (sT3 x) i).2))), (2, .int (jI (i : Int)))] [] (wMs E o a fs (fDs (fT3 f (sGtc x)) i)) := by
    intro fu
    induction fu with
    | zero => intro i h1 h2; exact absurd h1 (by omega)
    | succ fu ih =>
      intro i h1 h2
      refine j_iload_n 2 24 dX8_tick_23 rfl rfl ?_
      refine j_iconst 25 dX8_tick_24 rfl ?_
      refine j_icmp_ge 42 28 dX8_tick_25 rfl (by decide) (by omega) (by omega) (fun h_25 => ?_) (fun h_25 => ?_)
      · skip
        obtain rfl : i = 4 := by omega
        refine j_iload_n 1 43 dX8_tick_42 rfl rfl ?_
        exact j_iret dX8_tick_43 rfl (by rfl) (by rfl)
      · skip
        have hd := ds i (by omega)
        obtain ⟨q1, q2, q3, q4, q5⟩ := Rel_dh hd.2.1 hd.2.2.1 hd.1 (l := i) (by omega)
        refine j_iload_n 1 29 dX8_tick_28 rfl rfl ?_
        refine j_aload_n 0 30 dX8_tick_29 rfl rfl ?_
        refine j_iload_n 2 31 dX8_tick_30 rfl rfl ?_
        refine j_callVi 0 [0, 1] 34 [_, _] (c_X8_drops E _ _ _ _ _ (by omega) (by exact q1) (by exact q2) (by exact q3) (by exact q4) (by exact q5)) rfl kX8_tick_X8_drops rfl rfl rfl rfl rfl rfl rfl (Nat.le_of_ble_eq_true rfl) (by decide) dX8_tick_31 rfl ?_
        rw [← (Rel_drop hd.2.1 hd.2.2.1 hd.1 (l := i) (by omega)).2]
        refine j_iadd 35 dX8_tick_34 rfl ?_
        refine j_istore_n 36 [_, _, _] dX8_tick_35 rfl (by decide) rfl ?_
        refine j_iinc 2 39 [_, _, _] dX8_tick_36 rfl rfl (by decide) rfl ?_
        refine j_goto 23 dX8_tick_39 (by decide) ?_
        refine j_perm [2, 1, 0] rfl ?_
        have e : (sDs (sT3 x) (i + 1)).2 = (sDs (sT3 x) i).2 + sDrN (sDs (sT3 x) i).1 i := rfl
        have k := ih (i + 1) (by omega) (by omega)
        rw [e, ← Int.add_assoc] at k
        exact k
  refine j_perm [2, 1, 0] rfl ?_
  have k := key23 5 0 (by omega) (by omega)
  rw [show (x 2 11 + (sDs (sT3 x) 0).2) = x 2 11 from Int.add_zero _] at k
  exact k
theorem kX8_isWrong_X8_laneOf : jKv mX8_isWrong 66 yX8_laneOf wsX8_laneOf rmX8_laneOf 1 := ⟨gX8_isWrong_X8_laneOf, ⟨_, _, _, _, rfl, by decide⟩, by decide +kernel, rfl, rfl, by decide⟩
set_option maxRecDepth 100000 in
set_option maxHeartbeats 4000000 in
theorem c_X8_isWrong (E : jE) (o a : Nat) (fs : List Value) (f : Int → Int) (x : Nat → Int → Int) (l t : Int) (hx : sOK x) (hr : RelR x f) (hl : 0 ≤ l ∧ l ≤ 4) (ht : 0 ≤ t ∧ t < 2147483648) : jMI E yX8_isWrong wsX8_isWrong rmX8_isWrong [.ref o, .int (jI l), .int (jI t)] (wMs E o a fs f) (sWr x l t) (wMs E o a fs f) := by
  refine jMI_of (cc := cX8_isWrong) (maxL := 3) (ret := (some .boolean)) [(0, .ref o), (1, .int (jI l)), (2, .int (jI t))] (by decide) rfl rfl (Nat.le_of_ble_eq_true rfl) (fun C => ?_)
  show jG mX8_isWrong E C (jQi E C (sWr x l t) (wMs E o a fs f)) 0 0 0 [(0, .ref o), (1, .int (jI l)), (2, .int (jI t))] [] (wMs E o a fs f)
  have hs := sLn_rng hx t
  refine j_iload_n 1 1 dX8_isWrong_0 rfl rfl ?_
  refine j_iconst 2 dX8_isWrong_1 rfl ?_
  refine j_icmp_ge 18 5 dX8_isWrong_2 rfl (by decide) (by omega) (by omega) (fun h_2 => ?_) (fun h_2 => ?_)
  · skip
    have e : sWr x l t = 0 := by unfold sWr; split <;> first | rfl | exact if_pos (by omega)
    rw [e]
    refine j_iconst 19 dX8_isWrong_18 rfl ?_
    exact j_zret dX8_isWrong_19 rfl (by rfl) (by decide) (by rfl)
  · skip
    refine j_aload_n 0 6 dX8_isWrong_5 rfl rfl ?_
    refine j_iload_n 2 7 dX8_isWrong_6 rfl rfl ?_
    refine j_callVi 0 [0, 1] 10 [_, _] (c_X8_laneOf E _ _ _ _ _ _ (by exact hx) (by exact hr) (by omega)) rfl kX8_isWrong_X8_laneOf rfl rfl rfl rfl rfl rfl rfl (Nat.le_of_ble_eq_true rfl) (by decide) dX8_isWrong_7 rfl ?_
    refine j_iload_n 1 11 dX8_isWrong_10 rfl rfl ?_
    refine j_icmp_eq 18 14 dX8_isWrong_11 rfl (by decide) (by omega) (by omega) (fun h_11 => ?_) (fun h_11 => ?_)
    · skip
      have e : sWr x l t = 0 := by unfold sWr; split <;> first | rfl | exact if_pos (by omega)
      rw [e]
      refine j_iconst 19 dX8_isWrong_18 rfl ?_
      exact j_zret dX8_isWrong_19 rfl (by rfl) (by decide) (by rfl)
    · skip
      have e : sWr x l t = 1 := by unfold sWr; rw [if_neg (by omega), if_neg (by omega)]
      rw [e]
      refine j_iconst 15 dX8_isWrong_14 rfl ?_
      refine j_goto 19 dX8_isWrong_15 (by decide) ?_
      exact j_zret dX8_isWrong_19 rfl (by rfl) (by decide) (by rfl)
set_option maxRecDepth 20000 in
theorem in_X8_wrongIn_X8 : ∀ x ∈ u_ws RX8 TX8 11, x ∈ wsX8_wrongIn := by decide +kernel
theorem kX8_wrongIn_X8_boxAt : jKs mX8_wrongIn 57 yX8_boxAt wsX8_boxAt rmX8_boxAt 1 := ⟨gX8_wrongIn_X8_boxAt, ⟨_, _, _, _, rfl, by decide⟩, by decide +kernel, rfl, rfl, by decide⟩
theorem kX8_wrongIn_X8_isWrong : jKv mX8_wrongIn 141 yX8_isWrong wsX8_isWrong rmX8_isWrong 2 := ⟨gX8_wrongIn_X8_isWrong, ⟨_, _, _, _, rfl, by decide⟩, by decide +kernel, rfl, rfl, by decide⟩
set_option maxRecDepth 100000 in
set_option maxHeartbeats 4000000 in
theorem c_X8_wrongIn (E : jE) (o a : Nat) (fs : List Value) (f : Int → Int) (x : Nat → Int → Int) (l : Int) (hx : sOK x) (hr : Rel x f) (hl : 0 ≤ l ∧ l ≤ 4) : jMI E yX8_wrongIn wsX8_wrongIn rmX8_wrongIn [.ref o, .int (jI l)] (wMs E o a fs f) (sWi x l) (wMs E o a fs f) := by
  refine jMI_of (cc := cX8_wrongIn) (maxL := 4) (ret := (some .int)) [(0, .ref o), (1, .int (jI l))] (by decide) rfl rfl (Nat.le_of_ble_eq_true rfl) (fun C => ?_)
  show jG mX8_wrongIn E C (jQi E C (sWi x l) (wMs E o a fs f)) 0 0 0 [(0, .ref o), (1, .int (jI l))] [] (wMs E o a fs f)
  have r5 : ∀ i, 0 ≤ x 5 i ∧ x 5 i ≤ 512 ∧ (i < 4 → x 5 i ≤ 20) := hx 5
  have r6 : ∀ i, 0 ≤ x 6 i ∧ x 6 i < 404000 := hx 6
  have r5l := r5 l
  obtain ⟨bl, bk⟩ := hr.2.2.2.2.1 l hl.1 hl.2
  have bb : 90 ≤ bxA l ∧ bxA l ≤ 176 := by unfold bxA; split <;> omega
  have lim : bxA l + x 5 l ≤ 1200 := by unfold bxA; split <;> omega
  have hrr := Rel_RelR hr
  refine j_iconst 1 dX8_wrongIn_0 rfl ?_
  refine j_istore_n 2 [_, _, _] dX8_wrongIn_1 rfl (by decide) rfl ?_
  refine j_iconst 3 dX8_wrongIn_2 rfl ?_
  refine j_istore_n 4 [_, _, _, _] dX8_wrongIn_3 rfl (by decide) rfl ?_
  have key4 : ∀ (fu i : Nat), (x 5 l).toNat < i + fu → (i : Int) ≤ x 5 l → jG mX8_wrongIn E C (jQi E C (sWi x l) (wMs E o a fs f)) 0 0 4 [(0, .ref o), (1, .int (jI l)), (2, .int (jI (jSum (fun i => sWr x l (x 6 (l * 20 + i))) i))), (3, .int (jI (i : Int)))] [] (wMs E o a fs f) := by
    intro fu
    induction fu with
    | zero => intro i h1 h2; exact absurd h1 (by omega)
    | succ fu ih =>
      intro i h1 h2
      have w01 := sWr_01 x l (x 6 (l * 20 + i))
      refine j_iload_n 3 5 dX8_wrongIn_4 rfl rfl ?_
      refine j_aload_n 0 6 dX8_wrongIn_5 rfl rfl ?_
      refine j_get 0 0 1 9 in_X8_wrongIn_X8 dX8_wrongIn_6 rfl rfl rfl (by decide) rfl rfl ?_
      refine j_bipush 11 dX8_wrongIn_9 rfl (by decide) ?_
      refine j_iload_n 1 12 dX8_wrongIn_11 rfl rfl ?_
      refine j_iadd 13 dX8_wrongIn_12 rfl ?_
      refine j_iald 1 14 dX8_wrongIn_13 rfl rfl (by decide) (by omega) ?_
      refine j_icmp_ge 50 17 dX8_wrongIn_14 rfl (by decide) (by omega) (by omega) (fun h_14 => ?_) (fun h_14 => ?_)
      · skip
        obtain rfl : i = (x 5 l).toNat := by omega
        refine j_iload_n 2 51 dX8_wrongIn_50 rfl rfl ?_
        exact j_iret dX8_wrongIn_51 rfl (by rfl) (by rfl)
      · skip
        have ei := bk i (by omega) (by omega)
        have r6i := r6 (l * 20 + i)
        refine j_iload_n 2 18 dX8_wrongIn_17 rfl rfl ?_
        refine j_aload_n 0 19 dX8_wrongIn_18 rfl rfl ?_
        refine j_iload_n 1 20 dX8_wrongIn_19 rfl rfl ?_
        refine j_aload_n 0 21 dX8_wrongIn_20 rfl rfl ?_
        refine j_get 0 0 1 24 in_X8_wrongIn_X8 dX8_wrongIn_21 rfl rfl rfl (by decide) rfl rfl ?_
        refine j_iload_n 1 25 dX8_wrongIn_24 rfl rfl ?_
        refine j_callSi [] 28 [_, _] (c_X8_boxAt E _ (by omega)) rfl kX8_wrongIn_X8_boxAt rfl rfl rfl rfl rfl (Nat.le_of_ble_eq_true rfl) (by decide) dX8_wrongIn_25 rfl ?_
        refine j_iload_n 3 29 dX8_wrongIn_28 rfl rfl ?_
        refine j_iadd 30 dX8_wrongIn_29 rfl ?_
        refine j_iald 1 31 dX8_wrongIn_30 rfl rfl (by decide) (by omega) ?_
        rw [← ei]
        refine j_callVi 0 [0, 1] 34 [_, _] (c_X8_isWrong E _ _ _ _ _ _ _ (by exact hx) (by exact hrr) (by omega) (by omega)) rfl kX8_wrongIn_X8_isWrong rfl rfl rfl rfl rfl rfl rfl (Nat.le_of_ble_eq_true rfl) (by decide) dX8_wrongIn_31 rfl ?_
        refine j_if_eq 41 37 dX8_wrongIn_34 rfl (by decide) (by omega) (fun h_34 => ?_) (fun h_34 => ?_)
        · skip
          refine j_iconst 42 dX8_wrongIn_41 rfl ?_
          refine j_iadd 43 dX8_wrongIn_42 rfl ?_
          refine j_istore_n 44 [_, _, _, _] dX8_wrongIn_43 rfl (by decide) rfl ?_
          refine j_iinc 3 47 [_, _, _, _] dX8_wrongIn_44 rfl rfl (by decide) rfl ?_
          refine j_goto 4 dX8_wrongIn_47 (by decide) ?_
          refine j_perm [2, 3, 1, 0] rfl ?_
          have k := ih (i + 1) (by omega) (by omega)
          have e : jSum (fun i => sWr x l (x 6 (l * 20 + i))) (i + 1) = jSum (fun i => sWr x l (x 6 (l * 20 + i))) i + sWr x l (x 6 (l * 20 + i)) := rfl
          rw [e] at k
          first
            | (rw [h_34] at k; exact k)
            | (rw [show sWr x l (x 6 (l * 20 + i)) = 1 by omega] at k; exact k)
        · skip
          refine j_iconst 38 dX8_wrongIn_37 rfl ?_
          refine j_goto 42 dX8_wrongIn_38 (by decide) ?_
          refine j_iadd 43 dX8_wrongIn_42 rfl ?_
          refine j_istore_n 44 [_, _, _, _] dX8_wrongIn_43 rfl (by decide) rfl ?_
          refine j_iinc 3 47 [_, _, _, _] dX8_wrongIn_44 rfl rfl (by decide) rfl ?_
          refine j_goto 4 dX8_wrongIn_47 (by decide) ?_
          refine j_perm [2, 3, 1, 0] rfl ?_
          have k := ih (i + 1) (by omega) (by omega)
          have e : jSum (fun i => sWr x l (x 6 (l * 20 + i))) (i + 1) = jSum (fun i => sWr x l (x 6 (l * 20 + i))) i + sWr x l (x 6 (l * 20 + i)) := rfl
          rw [e] at k
          first
            | (rw [h_34] at k; exact k)
            | (rw [show sWr x l (x 6 (l * 20 + i)) = 1 by omega] at k; exact k)
  refine j_perm [2, 3, 1, 0] rfl ?_
  exact key4 ((x 5 l).toNat + 1) 0 (by omega) (by omega)
set_option maxRecDepth 20000 in
theorem in_X8_weightIn_X8 : ∀ x ∈ u_ws RX8 TX8 11, x ∈ wsX8_weightIn := by decide +kernel
theorem kX8_weightIn_X8_boxAt : jKs mX8_weightIn 57 yX8_boxAt wsX8_boxAt rmX8_boxAt 1 := ⟨gX8_weightIn_X8_boxAt, ⟨_, _, _, _, rfl, by decide⟩, by decide +kernel, rfl, rfl, by decide⟩
theorem kX8_weightIn_X8_weightOf : jKs mX8_weightIn 43 yX8_weightOf wsX8_weightOf rmX8_weightOf 1 := ⟨gX8_weightIn_X8_weightOf, ⟨_, _, _, _, rfl, by decide⟩, by decide +kernel, rfl, rfl, by decide⟩
set_option maxRecDepth 100000 in
set_option maxHeartbeats 4000000 in
theorem c_X8_weightIn (E : jE) (o a : Nat) (fs : List Value) (f : Int → Int) (x : Nat → Int → Int) (l : Int) (hx : sOK x) (hr : Rel x f) (hl : 0 ≤ l ∧ l ≤ 4) : jMI E yX8_weightIn wsX8_weightIn rmX8_weightIn [.ref o, .int (jI l)] (wMs E o a fs f) (jSum (fun i => tW (x 6 (l * 20 + i))) (x 5 l).toNat) (wMs E o a fs f) := by
  refine jMI_of (cc := cX8_weightIn) (maxL := 4) (ret := (some .int)) [(0, .ref o), (1, .int (jI l))] (by decide) rfl rfl (Nat.le_of_ble_eq_true rfl) (fun C => ?_)
  show jG mX8_weightIn E C (jQi E C (jSum (fun i => tW (x 6 (l * 20 + i))) (x 5 l).toNat) (wMs E o a fs f)) 0 0 0 [(0, .ref o), (1, .int (jI l))] [] (wMs E o a fs f)
  have r5 : ∀ i, 0 ≤ x 5 i ∧ x 5 i ≤ 512 ∧ (i < 4 → x 5 i ≤ 20) := hx 5
  have r6 : ∀ i, 0 ≤ x 6 i ∧ x 6 i < 404000 := hx 6
  have r5l := r5 l
  obtain ⟨bl, bk⟩ := hr.2.2.2.2.1 l hl.1 hl.2
  have bb : 90 ≤ bxA l ∧ bxA l ≤ 176 := by unfold bxA; split <;> omega
  have lim : bxA l + x 5 l ≤ 1200 := by unfold bxA; split <;> omega
  have hrr := Rel_RelR hr
  refine j_iconst 1 dX8_weightIn_0 rfl ?_
  refine j_istore_n 2 [_, _, _] dX8_weightIn_1 rfl (by decide) rfl ?_
  refine j_iconst 3 dX8_weightIn_2 rfl ?_
  refine j_istore_n 4 [_, _, _, _] dX8_weightIn_3 rfl (by decide) rfl ?_
  have key4 : ∀ (fu i : Nat), (x 5 l).toNat < i + fu → (i : Int) ≤ x 5 l → jG mX8_weightIn E C (jQi E C (jSum (fun i => tW (x 6 (l * 20 + i))) (x 5 l).toNat) (wMs E o a fs f)) 0 0 4 [(0, .ref o), (1, .int (jI l)), (2, .int (jI (jSum (fun i => tW (x 6 (l * 20 + i))) i))), (3, .int (jI (i : Int)))] [] (wMs E o a fs f) := by
    intro fu
    induction fu with
    | zero => intro i h1 h2; exact absurd h1 (by omega)
    | succ fu ih =>
      intro i h1 h2
      refine j_iload_n 3 5 dX8_weightIn_4 rfl rfl ?_
      refine j_aload_n 0 6 dX8_weightIn_5 rfl rfl ?_
      refine j_get 0 0 1 9 in_X8_weightIn_X8 dX8_weightIn_6 rfl rfl rfl (by decide) rfl rfl ?_
      refine j_bipush 11 dX8_weightIn_9 rfl (by decide) ?_
      refine j_iload_n 1 12 dX8_weightIn_11 rfl rfl ?_
      refine j_iadd 13 dX8_weightIn_12 rfl ?_
      refine j_iald 1 14 dX8_weightIn_13 rfl rfl (by decide) (by omega) ?_
      refine j_icmp_ge 40 17 dX8_weightIn_14 rfl (by decide) (by omega) (by omega) (fun h_14 => ?_) (fun h_14 => ?_)
      · skip
        obtain rfl : i = (x 5 l).toNat := by omega
        refine j_iload_n 2 41 dX8_weightIn_40 rfl rfl ?_
        exact j_iret dX8_weightIn_41 rfl (by rfl) (by rfl)
      · skip
        have ei := bk i (by omega) (by omega)
        have r6i := r6 (l * 20 + i)
        refine j_iload_n 2 18 dX8_weightIn_17 rfl rfl ?_
        refine j_aload_n 0 19 dX8_weightIn_18 rfl rfl ?_
        refine j_get 0 0 1 22 in_X8_weightIn_X8 dX8_weightIn_19 rfl rfl rfl (by decide) rfl rfl ?_
        refine j_iload_n 1 23 dX8_weightIn_22 rfl rfl ?_
        refine j_callSi [] 26 [_, _] (c_X8_boxAt E _ (by omega)) rfl kX8_weightIn_X8_boxAt rfl rfl rfl rfl rfl (Nat.le_of_ble_eq_true rfl) (by decide) dX8_weightIn_23 rfl ?_
        refine j_iload_n 3 27 dX8_weightIn_26 rfl rfl ?_
        refine j_iadd 28 dX8_weightIn_27 rfl ?_
        refine j_iald 1 29 dX8_weightIn_28 rfl rfl (by decide) (by omega) ?_
        rw [← ei]
        refine j_callSi [] 32 [_, _] (c_X8_weightOf E _ (by omega)) rfl kX8_weightIn_X8_weightOf rfl rfl rfl rfl rfl (Nat.le_of_ble_eq_true rfl) (by decide) dX8_weightIn_29 rfl ?_
        refine j_iadd 33 dX8_weightIn_32 rfl ?_
        refine j_istore_n 34 [_, _, _, _] dX8_weightIn_33 rfl (by decide) rfl ?_
        refine j_iinc 3 37 [_, _, _, _] dX8_weightIn_34 rfl rfl (by decide) rfl ?_
        refine j_goto 4 dX8_weightIn_37 (by decide) ?_
        refine j_perm [2, 3, 1, 0] rfl ?_
        exact ih (i + 1) (by omega) (by omega)
  refine j_perm [2, 3, 1, 0] rfl ?_
  exact key4 ((x 5 l).toNat + 1) 0 (by omega) (by omega)
set_option maxRecDepth 20000 in
theorem in_X8_leastRed_X8 : ∀ x ∈ u_ws RX8 TX8 11, x ∈ wsX8_leastRed := by decide +kernel
theorem kX8_leastRed_X8_boxAt : jKs mX8_leastRed 57 yX8_boxAt wsX8_boxAt rmX8_boxAt 1 := ⟨gX8_leastRed_X8_boxAt, ⟨_, _, _, _, rfl, by decide⟩, by decide +kernel, rfl, rfl, by decide⟩
theorem kX8_leastRed_X8_redOf : jKs mX8_leastRed 36 yX8_redOf wsX8_redOf rmX8_redOf 1 := ⟨gX8_leastRed_X8_redOf, ⟨_, _, _, _, rfl, by decide⟩, by decide +kernel, rfl, rfl, by decide⟩
set_option maxRecDepth 100000 in
set_option maxHeartbeats 4000000 in
theorem c_X8_leastRed (E : jE) (o a : Nat) (fs : List Value) (f : Int → Int) (x : Nat → Int → Int) (l : Int) (hx : sOK x) (hr : Rel x f) (hl : 0 ≤ l ∧ l ≤ 4) : jMI E yX8_leastRed wsX8_leastRed rmX8_leastRed [.ref o, .int (jI l)] (wMs E o a fs f) (lrU (x 6) (l * 20) (x 5 l).toNat) (wMs E o a fs f) := by
  refine jMI_of (cc := cX8_leastRed) (maxL := 5) (ret := (some .int)) [(0, .ref o), (1, .int (jI l))] (by decide) rfl rfl (Nat.le_of_ble_eq_true rfl) (fun C => ?_)
  show jG mX8_leastRed E C (jQi E C (lrU (x 6) (l * 20) (x 5 l).toNat) (wMs E o a fs f)) 0 0 0 [(0, .ref o), (1, .int (jI l))] [] (wMs E o a fs f)
  have r5 : ∀ i, 0 ≤ x 5 i ∧ x 5 i ≤ 512 ∧ (i < 4 → x 5 i ≤ 20) := hx 5
  have r6 : ∀ i, 0 ≤ x 6 i ∧ x 6 i < 404000 := hx 6
  have r5l := r5 l
  obtain ⟨bl, bk⟩ := hr.2.2.2.2.1 l hl.1 hl.2
  have bb : 90 ≤ bxA l ∧ bxA l ≤ 176 := by unfold bxA; split <;> omega
  have lim : bxA l + x 5 l ≤ 1200 := by unfold bxA; split <;> omega
  have hrr := Rel_RelR hr
  refine j_bipush 2 dX8_leastRed_0 rfl (by decide) ?_
  refine j_istore_n 3 [_, _, _] dX8_leastRed_2 rfl (by decide) rfl ?_
  refine j_iconst 4 dX8_leastRed_3 rfl ?_
  refine j_istore_n 5 [_, _, _, _] dX8_leastRed_4 rfl (by decide) rfl ?_
  have key5 : ∀ (fu i : Nat), (x 5 l).toNat < i + fu → (i : Int) ≤ x 5 l → jG mX8_leastRed E C (jQi E C (lrU (x 6) (l * 20) (x 5 l).toNat) (wMs E o a fs f)) 0 0 5 [(0, .ref o), (1, .int (jI l)), (2, .int (jI (lrU (x 6) (l * 20) i))), (3, .int (jI (i : Int)))] [] (wMs E o a fs f) := by
    intro fu
    induction fu with
    | zero => intro i h1 h2; exact absurd h1 (by omega)
    | succ fu ih =>
      intro i h1 h2
      have q1 := lrU_sp (x 6) (l * 20) i
      have q2 := tR_rng (x 6 (l * 20 + i))
      refine j_iload_n 3 6 dX8_leastRed_5 rfl rfl ?_
      refine j_aload_n 0 7 dX8_leastRed_6 rfl rfl ?_
      refine j_get 0 0 1 10 in_X8_leastRed_X8 dX8_leastRed_7 rfl rfl rfl (by decide) rfl rfl ?_
      refine j_bipush 12 dX8_leastRed_10 rfl (by decide) ?_
      refine j_iload_n 1 13 dX8_leastRed_12 rfl rfl ?_
      refine j_iadd 14 dX8_leastRed_13 rfl ?_
      refine j_iald 1 15 dX8_leastRed_14 rfl rfl (by decide) (by omega) ?_
      refine j_icmp_ge 57 18 dX8_leastRed_15 rfl (by decide) (by omega) (by omega) (fun h_15 => ?_) (fun h_15 => ?_)
      · skip
        obtain rfl : i = (x 5 l).toNat := by omega
        refine j_iload_n 2 58 dX8_leastRed_57 rfl rfl ?_
        exact j_iret dX8_leastRed_58 rfl (by rfl) (by rfl)
      · skip
        have ei := bk i (by omega) (by omega)
        have r6i := r6 (l * 20 + i)
        refine j_aload_n 0 19 dX8_leastRed_18 rfl rfl ?_
        refine j_get 0 0 1 22 in_X8_leastRed_X8 dX8_leastRed_19 rfl rfl rfl (by decide) rfl rfl ?_
        refine j_iload_n 1 23 dX8_leastRed_22 rfl rfl ?_
        refine j_callSi [] 26 [_, _] (c_X8_boxAt E _ (by omega)) rfl kX8_leastRed_X8_boxAt rfl rfl rfl rfl rfl (Nat.le_of_ble_eq_true rfl) (by decide) dX8_leastRed_23 rfl ?_
        refine j_iload_n 3 27 dX8_leastRed_26 rfl rfl ?_
        refine j_iadd 28 dX8_leastRed_27 rfl ?_
        refine j_iald 1 29 dX8_leastRed_28 rfl rfl (by decide) (by omega) ?_
        rw [← ei]
        refine j_callSi [] 32 [_, _] (c_X8_redOf E _ (by omega)) rfl kX8_leastRed_X8_redOf rfl rfl rfl rfl rfl (Nat.le_of_ble_eq_true rfl) (by decide) dX8_leastRed_29 rfl ?_
        refine j_istore 34 [_, _, _, _, _] dX8_leastRed_32 rfl (by decide) rfl ?_
        refine j_iload_n 3 35 dX8_leastRed_34 rfl rfl ?_
        refine j_if_lt 44 38 dX8_leastRed_35 rfl (by decide) (by omega) (fun h_35 => ?_) (fun h_35 => ?_)
        · skip
          refine j_iload 0 46 dX8_leastRed_44 rfl rfl ?_
          refine j_goto 50 dX8_leastRed_46 (by decide) ?_
          refine j_istore_n 51 [_, _, _, _, _] dX8_leastRed_50 rfl (by decide) rfl ?_
          refine j_iinc 4 54 [_, _, _, _, _] dX8_leastRed_51 rfl rfl (by decide) rfl ?_
          refine j_goto 5 dX8_leastRed_54 (by decide) ?_
          refine j_perm [3, 4, 1, 0] rfl ?_
          have e : lrU (x 6) (l * 20) (i + 1) = if lrU (x 6) (l * 20) i = -4 ∨ tR (x 6 (l * 20 + i)) < lrU (x 6) (l * 20) i then tR (x 6 (l * 20 + i)) else lrU (x 6) (l * 20) i := rfl
          have g := ih (i + 1) (by omega) (by omega)
          rw [e] at g
          first
            | (rw [if_pos (by omega)] at g; exact g)
            | (rw [if_neg (by omega)] at g; exact g)
        · skip
          refine j_iload 0 40 dX8_leastRed_38 rfl rfl ?_
          refine j_iload_n 3 41 dX8_leastRed_40 rfl rfl ?_
          refine j_icmp_ge 49 44 dX8_leastRed_41 rfl (by decide) (by omega) (by omega) (fun h_41 => ?_) (fun h_41 => ?_)
          · skip
            refine j_iload_n 3 50 dX8_leastRed_49 rfl rfl ?_
            refine j_istore_n 51 [_, _, _, _, _] dX8_leastRed_50 rfl (by decide) rfl ?_
            refine j_iinc 4 54 [_, _, _, _, _] dX8_leastRed_51 rfl rfl (by decide) rfl ?_
            refine j_goto 5 dX8_leastRed_54 (by decide) ?_
            refine j_perm [3, 4, 1, 0] rfl ?_
            have e : lrU (x 6) (l * 20) (i + 1) = if lrU (x 6) (l * 20) i = -4 ∨ tR (x 6 (l * 20 + i)) < lrU (x 6) (l * 20) i then tR (x 6 (l * 20 + i)) else lrU (x 6) (l * 20) i := rfl
            have g := ih (i + 1) (by omega) (by omega)
            rw [e] at g
            first
              | (rw [if_pos (by omega)] at g; exact g)
              | (rw [if_neg (by omega)] at g; exact g)
          · skip
            refine j_iload 0 46 dX8_leastRed_44 rfl rfl ?_
            refine j_goto 50 dX8_leastRed_46 (by decide) ?_
            refine j_istore_n 51 [_, _, _, _, _] dX8_leastRed_50 rfl (by decide) rfl ?_
            refine j_iinc 4 54 [_, _, _, _, _] dX8_leastRed_51 rfl rfl (by decide) rfl ?_
            refine j_goto 5 dX8_leastRed_54 (by decide) ?_
            refine j_perm [3, 4, 1, 0] rfl ?_
            have e : lrU (x 6) (l * 20) (i + 1) = if lrU (x 6) (l * 20) i = -4 ∨ tR (x 6 (l * 20 + i)) < lrU (x 6) (l * 20) i then tR (x 6 (l * 20 + i)) else lrU (x 6) (l * 20) i := rfl
            have g := ih (i + 1) (by omega) (by omega)
            rw [e] at g
            first
              | (rw [if_pos (by omega)] at g; exact g)
              | (rw [if_neg (by omega)] at g; exact g)
  refine j_perm [2, 3, 1, 0] rfl ?_
  exact key5 ((x 5 l).toNat + 1) 0 (by omega) (by omega)
set_option maxRecDepth 20000 in
theorem in_X8_worstBruise_X8 : ∀ x ∈ u_ws RX8 TX8 11, x ∈ wsX8_worstBruise := by decide +kernel
theorem kX8_worstBruise_X8_boxAt : jKs mX8_worstBruise 57 yX8_boxAt wsX8_boxAt rmX8_boxAt 1 := ⟨gX8_worstBruise_X8_boxAt, ⟨_, _, _, _, rfl, by decide⟩, by decide +kernel, rfl, rfl, by decide⟩
theorem kX8_worstBruise_X8_bruiseOf : jKs mX8_worstBruise 40 yX8_bruiseOf wsX8_bruiseOf rmX8_bruiseOf 1 := ⟨gX8_worstBruise_X8_bruiseOf, ⟨_, _, _, _, rfl, by decide⟩, by decide +kernel, rfl, rfl, by decide⟩
set_option maxRecDepth 100000 in
set_option maxHeartbeats 4000000 in
theorem c_X8_worstBruise (E : jE) (o a : Nat) (fs : List Value) (f : Int → Int) (x : Nat → Int → Int) (l : Int) (hx : sOK x) (hr : Rel x f) (hl : 0 ≤ l ∧ l ≤ 4) : jMI E yX8_worstBruise wsX8_worstBruise rmX8_worstBruise [.ref o, .int (jI l)] (wMs E o a fs f) (gbU (x 6) (l * 20) (x 5 l).toNat) (wMs E o a fs f) := by
  refine jMI_of (cc := cX8_worstBruise) (maxL := 5) (ret := (some .int)) [(0, .ref o), (1, .int (jI l))] (by decide) rfl rfl (Nat.le_of_ble_eq_true rfl) (fun C => ?_)
  show jG mX8_worstBruise E C (jQi E C (gbU (x 6) (l * 20) (x 5 l).toNat) (wMs E o a fs f)) 0 0 0 [(0, .ref o), (1, .int (jI l))] [] (wMs E o a fs f)
  have r5 : ∀ i, 0 ≤ x 5 i ∧ x 5 i ≤ 512 ∧ (i < 4 → x 5 i ≤ 20) := hx 5
  have r6 : ∀ i, 0 ≤ x 6 i ∧ x 6 i < 404000 := hx 6
  have r5l := r5 l
  obtain ⟨bl, bk⟩ := hr.2.2.2.2.1 l hl.1 hl.2
  have bb : 90 ≤ bxA l ∧ bxA l ≤ 176 := by unfold bxA; split <;> omega
  have lim : bxA l + x 5 l ≤ 1200 := by unfold bxA; split <;> omega
  have hrr := Rel_RelR hr
  refine j_bipush 2 dX8_worstBruise_0 rfl (by decide) ?_
  refine j_istore_n 3 [_, _, _] dX8_worstBruise_2 rfl (by decide) rfl ?_
  refine j_iconst 4 dX8_worstBruise_3 rfl ?_
  refine j_istore_n 5 [_, _, _, _] dX8_worstBruise_4 rfl (by decide) rfl ?_
  have key5 : ∀ (fu i : Nat), (x 5 l).toNat < i + fu → (i : Int) ≤ x 5 l → jG mX8_worstBruise E C (jQi E C (gbU (x 6) (l * 20) (x 5 l).toNat) (wMs E o a fs f)) 0 0 5 [(0, .ref o), (1, .int (jI l)), (2, .int (jI (gbU (x 6) (l * 20) i))), (3, .int (jI (i : Int)))] [] (wMs E o a fs f) := by
    intro fu
    induction fu with
    | zero => intro i h1 h2; exact absurd h1 (by omega)
    | succ fu ih =>
      intro i h1 h2
      have q1 := gbU_rng (x 6) (l * 20) i
      have q2 := tB_rng (x 6 (l * 20 + i))
      refine j_iload_n 3 6 dX8_worstBruise_5 rfl rfl ?_
      refine j_aload_n 0 7 dX8_worstBruise_6 rfl rfl ?_
      refine j_get 0 0 1 10 in_X8_worstBruise_X8 dX8_worstBruise_7 rfl rfl rfl (by decide) rfl rfl ?_
      refine j_bipush 12 dX8_worstBruise_10 rfl (by decide) ?_
      refine j_iload_n 1 13 dX8_worstBruise_12 rfl rfl ?_
      refine j_iadd 14 dX8_worstBruise_13 rfl ?_
      refine j_iald 1 15 dX8_worstBruise_14 rfl rfl (by decide) (by omega) ?_
      refine j_icmp_ge 53 18 dX8_worstBruise_15 rfl (by decide) (by omega) (by omega) (fun h_15 => ?_) (fun h_15 => ?_)
      · skip
        obtain rfl : i = (x 5 l).toNat := by omega
        refine j_iload_n 2 54 dX8_worstBruise_53 rfl rfl ?_
        exact j_iret dX8_worstBruise_54 rfl (by rfl) (by rfl)
      · skip
        have ei := bk i (by omega) (by omega)
        have r6i := r6 (l * 20 + i)
        refine j_aload_n 0 19 dX8_worstBruise_18 rfl rfl ?_
        refine j_get 0 0 1 22 in_X8_worstBruise_X8 dX8_worstBruise_19 rfl rfl rfl (by decide) rfl rfl ?_
        refine j_iload_n 1 23 dX8_worstBruise_22 rfl rfl ?_
        refine j_callSi [] 26 [_, _] (c_X8_boxAt E _ (by omega)) rfl kX8_worstBruise_X8_boxAt rfl rfl rfl rfl rfl (Nat.le_of_ble_eq_true rfl) (by decide) dX8_worstBruise_23 rfl ?_
        refine j_iload_n 3 27 dX8_worstBruise_26 rfl rfl ?_
        refine j_iadd 28 dX8_worstBruise_27 rfl ?_
        refine j_iald 1 29 dX8_worstBruise_28 rfl rfl (by decide) (by omega) ?_
        rw [← ei]
        refine j_callSi [] 32 [_, _] (c_X8_bruiseOf E _ (by omega)) rfl kX8_worstBruise_X8_bruiseOf rfl rfl rfl rfl rfl (Nat.le_of_ble_eq_true rfl) (by decide) dX8_worstBruise_29 rfl ?_
        refine j_istore 34 [_, _, _, _, _] dX8_worstBruise_32 rfl (by decide) rfl ?_
        refine j_iload 0 36 dX8_worstBruise_34 rfl rfl ?_
        refine j_iload_n 3 37 dX8_worstBruise_36 rfl rfl ?_
        refine j_icmp_le 45 40 dX8_worstBruise_37 rfl (by decide) (by omega) (by omega) (fun h_37 => ?_) (fun h_37 => ?_)
        · skip
          refine j_iload_n 3 46 dX8_worstBruise_45 rfl rfl ?_
          refine j_istore_n 47 [_, _, _, _, _] dX8_worstBruise_46 rfl (by decide) rfl ?_
          refine j_iinc 4 50 [_, _, _, _, _] dX8_worstBruise_47 rfl rfl (by decide) rfl ?_
          refine j_goto 5 dX8_worstBruise_50 (by decide) ?_
          refine j_perm [3, 4, 1, 0] rfl ?_
          have e : gbU (x 6) (l * 20) (i + 1) = jMax (gbU (x 6) (l * 20) i) (tB (x 6 (l * 20 + i))) := rfl
          have g := ih (i + 1) (by omega) (by omega)
          rw [e] at g
          unfold jMax at g
          first
            | (rw [if_pos (by omega)] at g; exact g)
            | (rw [if_neg (by omega)] at g; exact g)
        · skip
          refine j_iload 0 42 dX8_worstBruise_40 rfl rfl ?_
          refine j_goto 46 dX8_worstBruise_42 (by decide) ?_
          refine j_istore_n 47 [_, _, _, _, _] dX8_worstBruise_46 rfl (by decide) rfl ?_
          refine j_iinc 4 50 [_, _, _, _, _] dX8_worstBruise_47 rfl rfl (by decide) rfl ?_
          refine j_goto 5 dX8_worstBruise_50 (by decide) ?_
          refine j_perm [3, 4, 1, 0] rfl ?_
          have e : gbU (x 6) (l * 20) (i + 1) = jMax (gbU (x 6) (l * 20) i) (tB (x 6 (l * 20 + i))) := rfl
          have g := ih (i + 1) (by omega) (by omega)
          rw [e] at g
          unfold jMax at g
          first
            | (rw [if_pos (by omega)] at g; exact g)
            | (rw [if_neg (by omega)] at g; exact g)
  refine j_perm [2, 3, 1, 0] rfl ?_
  exact key5 ((x 5 l).toNat + 1) 0 (by omega) (by omega)
set_option maxRecDepth 20000 in
theorem in_X8_isRule_X8 : ∀ x ∈ u_ws RX8 TX8 11, x ∈ wsX8_isRule := by decide +kernel
theorem kX8_isRule_X8_in : jKs mX8_isRule 32 yX8_in wsX8_in rmX8_in 3 := ⟨gX8_isRule_X8_in, ⟨_, _, _, _, rfl, by decide⟩, by decide +kernel, rfl, rfl, by decide⟩
set_option maxRecDepth 100000 in
set_option maxHeartbeats 4000000 in
theorem c_X8_isRule (E : jE) (o a : Nat) (fs : List Value) (f : Int → Int) (k : Int) (h4 : 0 ≤ f 4 ∧ f 4 ≤ 8) (kb : -2147483648 ≤ k ∧ k < 2147483648) : jMI E yX8_isRule wsX8_isRule rmX8_isRule [.ref o, .int (jI k)] (wMs E o a fs f) (if 0 ≤ k ∧ k < f 4 then 1 else 0) (wMs E o a fs f) := by
  refine jMI_of (cc := cX8_isRule) (maxL := 2) (ret := (some .boolean)) [(0, .ref o), (1, .int (jI k))] (by decide) rfl rfl (Nat.le_of_ble_eq_true rfl) (fun C => ?_)
  show jG mX8_isRule E C (jQi E C (if 0 ≤ k ∧ k < f 4 then 1 else 0) (wMs E o a fs f)) 0 0 0 [(0, .ref o), (1, .int (jI k))] [] (wMs E o a fs f)
  refine j_iload_n 1 1 dX8_isRule_0 rfl rfl ?_
  refine j_iconst 2 dX8_isRule_1 rfl ?_
  refine j_aload_n 0 3 dX8_isRule_2 rfl rfl ?_
  refine j_get 0 0 1 6 in_X8_isRule_X8 dX8_isRule_3 rfl rfl rfl (by decide) rfl rfl ?_
  refine j_iconst 7 dX8_isRule_6 rfl ?_
  refine j_iald 1 8 dX8_isRule_7 rfl rfl (by decide) (by omega) ?_
  refine j_iconst 9 dX8_isRule_8 rfl ?_
  refine j_isub 10 dX8_isRule_9 rfl ?_
  refine j_callSi [] 13 [_, _] (c_X8_in E _ _ _ (by omega) (by omega) (by omega)) rfl kX8_isRule_X8_in rfl rfl rfl rfl rfl (Nat.le_of_ble_eq_true rfl) (by decide) dX8_isRule_10 rfl ?_
  exact j_zret dX8_isRule_13 rfl (by (repeat' split) <;> omega) (by (repeat' split) <;> omega) (by rfl)
theorem kX8_isCovered_X8_ruleAt : jKs mX8_isCovered 50 yX8_ruleAt wsX8_ruleAt rmX8_ruleAt 1 := ⟨gX8_isCovered_X8_ruleAt, ⟨_, _, _, _, rfl, by decide⟩, by decide +kernel, rfl, rfl, by decide⟩
set_option maxRecDepth 20000 in
theorem in_X8_isCovered_X8 : ∀ x ∈ u_ws RX8 TX8 11, x ∈ wsX8_isCovered := by decide +kernel
set_option maxRecDepth 100000 in
set_option maxHeartbeats 4000000 in
theorem c_X8_isCovered (E : jE) (o a : Nat) (fs : List Value) (f : Int → Int) (x : Nat → Int → Int) (r : Int) (hx : sOK x) (hr : RelR x f) (hk : 0 ≤ r ∧ r < x 9 0) : jMI E yX8_isCovered wsX8_isCovered rmX8_isCovered [.ref o, .int (jI r)] (wMs E o a fs f) (hidF (x 0) (x 0 r) r.toNat 0) (wMs E o a fs f) := by
  refine jMI_of (cc := cX8_isCovered) (maxL := 6) (ret := (some .boolean)) [(0, .ref o), (1, .int (jI r))] (by decide) rfl rfl (Nat.le_of_ble_eq_true rfl) (fun C => ?_)
  show jG mX8_isCovered E C (jQi E C (hidF (x 0) (x 0 r) r.toNat 0) (wMs E o a fs f)) 0 0 0 [(0, .ref o), (1, .int (jI r))] [] (wMs E o a fs f)
  have r9 : 0 ≤ x 9 0 ∧ x 9 0 ≤ 8 := hx 9
  have r0 : ∀ i, 0 ≤ x 0 i ∧ x 0 i < 404000 := hx 0
  have r1 : ∀ i, 0 ≤ x 1 i ∧ x 1 i ≤ 3 := hx 1
  obtain ⟨q1, q2, q3, q4⟩ := hr.2.2 r hk.1 hk.2
  have w1 := tW_rng (t := x 0 r) (by have := r0 r; omega)
  have g1 := tR_rng (x 0 r)
  have g2 := tB_rng (x 0 r)
  refine j_iload_n 1 1 dX8_isCovered_0 rfl rfl ?_
  refine j_callSi [] 4 [_, _] (c_X8_ruleAt E _ ) rfl kX8_isCovered_X8_ruleAt rfl rfl rfl rfl rfl (Nat.le_of_ble_eq_true rfl) (by decide) dX8_isCovered_1 rfl ?_
  refine j_istore_n 5 [_, _, _] dX8_isCovered_4 rfl (by decide) rfl ?_
  refine j_iconst 6 dX8_isCovered_5 rfl ?_
  refine j_istore_n 7 [_, _, _, _] dX8_isCovered_6 rfl (by decide) rfl ?_
  refine j_iconst 8 dX8_isCovered_7 rfl ?_
  refine j_istore 10 [_, _, _, _, _] dX8_isCovered_8 rfl (by decide) rfl ?_
  have key10 : ∀ (fu : Nat) (i c : Int), r < i + fu → 0 ≤ i ∧ i ≤ r → (c = 0 ∨ c = 1) → hidF (x 0) (x 0 r) r.toNat 0 = (if c = 1 then 1 else hidF (x 0) (x 0 r) (r - i).toNat i) → jG mX8_isCovered E C (jQi E C (hidF (x 0) (x 0 r) r.toNat 0) (wMs E o a fs f)) 0 0 10 [(0, .ref o), (1, .int (jI r)), (2, .int (jI (5 + 4 * r))), (3, .int (jI c)), (4, .int (jI i))] [] (wMs E o a fs f) := by
    intro fu
    induction fu with
    | zero => intro i c h1 h2 hc he; exact absurd h1 (by omega)
    | succ fu ih =>
      intro i c h1 h2 hc he
      refine j_iload 4 12 dX8_isCovered_10 rfl rfl ?_
      refine j_iload_n 1 13 dX8_isCovered_12 rfl rfl ?_
      refine j_icmp_ge 95 16 dX8_isCovered_13 rfl (by decide) (by omega) (by omega) (fun h_13 => ?_) (fun h_13 => ?_)
      · skip
        obtain rfl : i = r := by omega
        rw [Int.sub_self] at he
        change _ = (if c = 1 then 1 else 0 : Int) at he
        refine j_iload_n 3 96 dX8_isCovered_95 rfl rfl ?_
        exact j_zret dX8_isCovered_96 rfl (by rw [he]; split <;> omega) (by exact hc) (by rfl)
      · skip
        rw [show (r - i).toNat = (r - (i + 1)).toNat + 1 by omega, hidF] at he
        obtain ⟨p1, p2, p3, p4⟩ := hr.2.2 i h2.1 (by omega)
        have w2 := tW_rng (t := x 0 i) (by have := r0 i; omega)
        have g3 := tR_rng (x 0 i)
        have g4 := tB_rng (x 0 i)
        refine j_iload 4 18 dX8_isCovered_16 rfl rfl ?_
        refine j_callSi [] 21 [_, _] (c_X8_ruleAt E _ ) rfl kX8_isCovered_X8_ruleAt rfl rfl rfl rfl rfl (Nat.le_of_ble_eq_true rfl) (by decide) dX8_isCovered_18 rfl ?_
        refine j_istore 23 [_, _, _, _, _, _] dX8_isCovered_21 rfl (by decide) rfl ?_
        refine j_iload_n 4 24 dX8_isCovered_23 rfl rfl ?_
        refine j_if_ne 83 27 dX8_isCovered_24 rfl (by decide) (by omega) (fun h_24 => ?_) (fun h_24 => ?_)
        · skip
          refine j_iconst 84 dX8_isCovered_83 rfl ?_
          refine j_goto 88 dX8_isCovered_84 (by decide) ?_
          refine j_istore_n 89 [_, _, _, _, _, _] dX8_isCovered_88 rfl (by decide) rfl ?_
          refine j_iinc 5 92 [_, _, _, _, _, _] dX8_isCovered_89 rfl rfl (by decide) rfl ?_
          refine j_goto 10 dX8_isCovered_92 (by decide) ?_
          refine j_perm [3, 4, 5, 1, 0] rfl ?_
          first
            | exact ih (i + 1) 1 (by omega) (by omega) (by omega) (by rw [if_pos rfl]; rw [he]; first | (rw [if_pos (by omega)]) | (rw [if_neg (by omega), if_pos (by unfold tShort; rw [if_neg (by omega), if_neg (by omega), if_neg (by omega)]; rfl)]))
            | exact ih (i + 1) 0 (by omega) (by omega) (by omega) (by rw [if_neg (by omega)]; rw [he, if_neg (by omega), if_neg (by unfold tShort; (repeat' split) <;> omega)])
        · skip
          refine j_aload_n 1 28 dX8_isCovered_27 rfl rfl ?_
          refine j_get 0 0 1 31 in_X8_isCovered_X8 dX8_isCovered_28 rfl rfl rfl (by decide) rfl rfl ?_
          refine j_iload 0 33 dX8_isCovered_31 rfl rfl ?_
          refine j_iald 1 34 dX8_isCovered_33 rfl rfl (by decide) (by omega) ?_
          refine j_aload_n 1 35 dX8_isCovered_34 rfl rfl ?_
          refine j_get 0 0 1 38 in_X8_isCovered_X8 dX8_isCovered_35 rfl rfl rfl (by decide) rfl rfl ?_
          refine j_iload_n 3 39 dX8_isCovered_38 rfl rfl ?_
          refine j_iald 1 40 dX8_isCovered_39 rfl rfl (by decide) (by omega) ?_
          refine j_icmp_gt 87 43 dX8_isCovered_40 rfl (by decide) (by omega) (by omega) (fun h_40 => ?_) (fun h_40 => ?_)
          · skip
            refine j_iconst 88 dX8_isCovered_87 rfl ?_
            refine j_istore_n 89 [_, _, _, _, _, _] dX8_isCovered_88 rfl (by decide) rfl ?_
            refine j_iinc 5 92 [_, _, _, _, _, _] dX8_isCovered_89 rfl rfl (by decide) rfl ?_
            refine j_goto 10 dX8_isCovered_92 (by decide) ?_
            refine j_perm [3, 4, 5, 1, 0] rfl ?_
            first
              | exact ih (i + 1) 1 (by omega) (by omega) (by omega) (by rw [if_pos rfl]; rw [he]; first | (rw [if_pos (by omega)]) | (rw [if_neg (by omega), if_pos (by unfold tShort; rw [if_neg (by omega), if_neg (by omega), if_neg (by omega)]; rfl)]))
              | exact ih (i + 1) 0 (by omega) (by omega) (by omega) (by rw [if_neg (by omega)]; rw [he, if_neg (by omega), if_neg (by unfold tShort; (repeat' split) <;> omega)])
          · skip
            refine j_aload_n 1 44 dX8_isCovered_43 rfl rfl ?_
            refine j_get 0 0 1 47 in_X8_isCovered_X8 dX8_isCovered_44 rfl rfl rfl (by decide) rfl rfl ?_
            refine j_iload 0 49 dX8_isCovered_47 rfl rfl ?_
            refine j_iconst 50 dX8_isCovered_49 rfl ?_
            refine j_iadd 51 dX8_isCovered_50 rfl ?_
            refine j_iald 1 52 dX8_isCovered_51 rfl rfl (by decide) (by omega) ?_
            refine j_aload_n 1 53 dX8_isCovered_52 rfl rfl ?_
            refine j_get 0 0 1 56 in_X8_isCovered_X8 dX8_isCovered_53 rfl rfl rfl (by decide) rfl rfl ?_
            refine j_iload_n 3 57 dX8_isCovered_56 rfl rfl ?_
            refine j_iconst 58 dX8_isCovered_57 rfl ?_
            refine j_iadd 59 dX8_isCovered_58 rfl ?_
            refine j_iald 1 60 dX8_isCovered_59 rfl rfl (by decide) (by omega) ?_
            refine j_icmp_gt 87 63 dX8_isCovered_60 rfl (by decide) (by omega) (by omega) (fun h_60 => ?_) (fun h_60 => ?_)
            · skip
              refine j_iconst 88 dX8_isCovered_87 rfl ?_
              refine j_istore_n 89 [_, _, _, _, _, _] dX8_isCovered_88 rfl (by decide) rfl ?_
              refine j_iinc 5 92 [_, _, _, _, _, _] dX8_isCovered_89 rfl rfl (by decide) rfl ?_
              refine j_goto 10 dX8_isCovered_92 (by decide) ?_
              refine j_perm [3, 4, 5, 1, 0] rfl ?_
              first
                | exact ih (i + 1) 1 (by omega) (by omega) (by omega) (by rw [if_pos rfl]; rw [he]; first | (rw [if_pos (by omega)]) | (rw [if_neg (by omega), if_pos (by unfold tShort; rw [if_neg (by omega), if_neg (by omega), if_neg (by omega)]; rfl)]))
                | exact ih (i + 1) 0 (by omega) (by omega) (by omega) (by rw [if_neg (by omega)]; rw [he, if_neg (by omega), if_neg (by unfold tShort; (repeat' split) <;> omega)])
            · skip
              refine j_aload_n 1 64 dX8_isCovered_63 rfl rfl ?_
              refine j_get 0 0 1 67 in_X8_isCovered_X8 dX8_isCovered_64 rfl rfl rfl (by decide) rfl rfl ?_
              refine j_iload 0 69 dX8_isCovered_67 rfl rfl ?_
              refine j_iconst 70 dX8_isCovered_69 rfl ?_
              refine j_iadd 71 dX8_isCovered_70 rfl ?_
              refine j_iald 1 72 dX8_isCovered_71 rfl rfl (by decide) (by omega) ?_
              refine j_aload_n 1 73 dX8_isCovered_72 rfl rfl ?_
              refine j_get 0 0 1 76 in_X8_isCovered_X8 dX8_isCovered_73 rfl rfl rfl (by decide) rfl rfl ?_
              refine j_iload_n 3 77 dX8_isCovered_76 rfl rfl ?_
              refine j_iconst 78 dX8_isCovered_77 rfl ?_
              refine j_iadd 79 dX8_isCovered_78 rfl ?_
              refine j_iald 1 80 dX8_isCovered_79 rfl rfl (by decide) (by omega) ?_
              refine j_icmp_lt 87 83 dX8_isCovered_80 rfl (by decide) (by omega) (by omega) (fun h_80 => ?_) (fun h_80 => ?_)
              · skip
                refine j_iconst 88 dX8_isCovered_87 rfl ?_
                refine j_istore_n 89 [_, _, _, _, _, _] dX8_isCovered_88 rfl (by decide) rfl ?_
                refine j_iinc 5 92 [_, _, _, _, _, _] dX8_isCovered_89 rfl rfl (by decide) rfl ?_
                refine j_goto 10 dX8_isCovered_92 (by decide) ?_
                refine j_perm [3, 4, 5, 1, 0] rfl ?_
                first
                  | exact ih (i + 1) 1 (by omega) (by omega) (by omega) (by rw [if_pos rfl]; rw [he]; first | (rw [if_pos (by omega)]) | (rw [if_neg (by omega), if_pos (by unfold tShort; rw [if_neg (by omega), if_neg (by omega), if_neg (by omega)]; rfl)]))
                  | exact ih (i + 1) 0 (by omega) (by omega) (by omega) (by rw [if_neg (by omega)]; rw [he, if_neg (by omega), if_neg (by unfold tShort; (repeat' split) <;> omega)])
              · skip
                refine j_iconst 84 dX8_isCovered_83 rfl ?_
                refine j_goto 88 dX8_isCovered_84 (by decide) ?_
                refine j_istore_n 89 [_, _, _, _, _, _] dX8_isCovered_88 rfl (by decide) rfl ?_
                refine j_iinc 5 92 [_, _, _, _, _, _] dX8_isCovered_89 rfl rfl (by decide) rfl ?_
                refine j_goto 10 dX8_isCovered_92 (by decide) ?_
                refine j_perm [3, 4, 5, 1, 0] rfl ?_
                first
                  | exact ih (i + 1) 1 (by omega) (by omega) (by omega) (by rw [if_pos rfl]; rw [he]; first | (rw [if_pos (by omega)]) | (rw [if_neg (by omega), if_pos (by unfold tShort; rw [if_neg (by omega), if_neg (by omega), if_neg (by omega)]; rfl)]))
                  | exact ih (i + 1) 0 (by omega) (by omega) (by omega) (by rw [if_neg (by omega)]; rw [he, if_neg (by omega), if_neg (by unfold tShort; (repeat' split) <;> omega)])
  refine j_perm [3, 4, 2, 1, 0] rfl ?_
  exact key10 (r.toNat + 1) 0 0 (by omega) (by omega) (by omega) (by rw [if_neg (by omega), Int.sub_zero])
set_option maxRecDepth 20000 in
theorem in_X8_onBelt_X8 : ∀ x ∈ u_ws RX8 TX8 11, x ∈ wsX8_onBelt := by decide +kernel
theorem kX8_onBelt_X8_cupAt : jKs mX8_onBelt 60 yX8_cupAt wsX8_cupAt rmX8_cupAt 1 := ⟨gX8_onBelt_X8_cupAt, ⟨_, _, _, _, rfl, by decide⟩, by decide +kernel, rfl, rfl, by decide⟩
set_option maxRecDepth 100000 in
set_option maxHeartbeats 4000000 in
theorem c_X8_onBelt (E : jE) (o a : Nat) (fs : List Value) (f : Int → Int) (x : Nat → Int → Int) (hx : sOK x) (hr : Rel x f) : jMI E yX8_onBelt wsX8_onBelt rmX8_onBelt [.ref o] (wMs E o a fs f) (jSum (x 2) 12) (wMs E o a fs f) := by
  refine jMI_of (cc := cX8_onBelt) (maxL := 3) (ret := (some .int)) [(0, .ref o)] (by decide) rfl rfl (Nat.le_of_ble_eq_true rfl) (fun C => ?_)
  show jG mX8_onBelt E C (jQi E C (jSum (x 2) 12) (wMs E o a fs f)) 0 0 0 [(0, .ref o)] [] (wMs E o a fs f)
  refine j_iconst 1 dX8_onBelt_0 rfl ?_
  refine j_istore_n 2 [_, _] dX8_onBelt_1 rfl (by decide) rfl ?_
  refine j_iconst 3 dX8_onBelt_2 rfl ?_
  refine j_istore_n 4 [_, _, _] dX8_onBelt_3 rfl (by decide) rfl ?_
  have key4 : ∀ (fu i : Nat), 12 < i + fu → (i : Int) ≤ 12 → jG mX8_onBelt E C (jQi E C (jSum (x 2) 12) (wMs E o a fs f)) 0 0 4 [(0, .ref o), (1, .int (jI (jSum (x 2) i))), (2, .int (jI (i : Int)))] [] (wMs E o a fs f) := by
    intro fu
    induction fu with
    | zero => intro i h1 h2; exact absurd h1 (by omega)
    | succ fu ih =>
      intro i h1 h2
      refine j_iload_n 2 5 dX8_onBelt_4 rfl rfl ?_
      refine j_bipush 7 dX8_onBelt_5 rfl (by decide) ?_
      refine j_icmp_ge 28 10 dX8_onBelt_7 rfl (by decide) (by omega) (by omega) (fun h_7 => ?_) (fun h_7 => ?_)
      · skip
        obtain rfl : i = 12 := by omega
        refine j_iload_n 1 29 dX8_onBelt_28 rfl rfl ?_
        exact j_iret dX8_onBelt_29 rfl (by rfl) (by rfl)
      · skip
        have ci := hr.2.2.2.1 i (by omega) (by omega)
        refine j_iload_n 1 11 dX8_onBelt_10 rfl rfl ?_
        refine j_aload_n 0 12 dX8_onBelt_11 rfl rfl ?_
        refine j_get 0 0 1 15 in_X8_onBelt_X8 dX8_onBelt_12 rfl rfl rfl (by decide) rfl rfl ?_
        refine j_iload_n 2 16 dX8_onBelt_15 rfl rfl ?_
        refine j_callSi [] 19 [_, _] (c_X8_cupAt E _ ) rfl kX8_onBelt_X8_cupAt rfl rfl rfl rfl rfl (Nat.le_of_ble_eq_true rfl) (by decide) dX8_onBelt_16 rfl ?_
        refine j_iald 1 20 dX8_onBelt_19 rfl rfl (by decide) (by omega) ?_
        rw [← ci.1]
        refine j_iadd 21 dX8_onBelt_20 rfl ?_
        refine j_istore_n 22 [_, _, _] dX8_onBelt_21 rfl (by decide) rfl ?_
        refine j_iinc 2 25 [_, _, _] dX8_onBelt_22 rfl rfl (by decide) rfl ?_
        refine j_goto 4 dX8_onBelt_25 (by decide) ?_
        refine j_perm [2, 1, 0] rfl ?_
        exact ih (i + 1) (by omega) (by omega)
  refine j_perm [2, 1, 0] rfl ?_
  exact key4 13 0 (by omega) (by omega)
set_option maxRecDepth 20000 in
theorem in_X8_doublesOnBelt_X8 : ∀ x ∈ u_ws RX8 TX8 11, x ∈ wsX8_doublesOnBelt := by decide +kernel
theorem kX8_doublesOnBelt_X8_cupAt : jKs mX8_doublesOnBelt 60 yX8_cupAt wsX8_cupAt rmX8_cupAt 1 := ⟨gX8_doublesOnBelt_X8_cupAt, ⟨_, _, _, _, rfl, by decide⟩, by decide +kernel, rfl, rfl, by decide⟩
set_option maxRecDepth 100000 in
set_option maxHeartbeats 4000000 in
theorem c_X8_doublesOnBelt (E : jE) (o a : Nat) (fs : List Value) (f : Int → Int) (x : Nat → Int → Int) (hx : sOK x) (hr : Rel x f) : jMI E yX8_doublesOnBelt wsX8_doublesOnBelt rmX8_doublesOnBelt [.ref o] (wMs E o a fs f) (jSum (fun i => if x 2 i = 2 then 1 else 0) 12) (wMs E o a fs f) := by
  refine jMI_of (cc := cX8_doublesOnBelt) (maxL := 3) (ret := (some .int)) [(0, .ref o)] (by decide) rfl rfl (Nat.le_of_ble_eq_true rfl) (fun C => ?_)
  show jG mX8_doublesOnBelt E C (jQi E C (jSum (fun i => if x 2 i = 2 then 1 else 0) 12) (wMs E o a fs f)) 0 0 0 [(0, .ref o)] [] (wMs E o a fs f)
  have r2 : ∀ i, 0 ≤ x 2 i ∧ x 2 i ≤ 2 := hx 2
  have r3 : ∀ i, -1 ≤ x 3 i ∧ x 3 i ≤ 4 := hx 3
  have r4 : ∀ i, 0 ≤ x 4 i ∧ x 4 i < 404000 := hx 4
  refine j_iconst 1 dX8_doublesOnBelt_0 rfl ?_
  refine j_istore_n 2 [_, _] dX8_doublesOnBelt_1 rfl (by decide) rfl ?_
  refine j_iconst 3 dX8_doublesOnBelt_2 rfl ?_
  refine j_istore_n 4 [_, _, _] dX8_doublesOnBelt_3 rfl (by decide) rfl ?_
  have key4 : ∀ (fu i : Nat), 12 < i + fu → (i : Int) ≤ 12 → jG mX8_doublesOnBelt E C (jQi E C (jSum (fun i => if x 2 i = 2 then 1 else 0) 12) (wMs E o a fs f)) 0 0 4 [(0, .ref o), (1, .int (jI (jSum (fun i => if x 2 i = 2 then 1 else 0) i))), (2, .int (jI (i : Int)))] [] (wMs E o a fs f) := by
    intro fu
    induction fu with
    | zero => intro i h1 h2; exact absurd h1 (by omega)
    | succ fu ih =>
      intro i h1 h2
      refine j_iload_n 2 5 dX8_doublesOnBelt_4 rfl rfl ?_
      refine j_bipush 7 dX8_doublesOnBelt_5 rfl (by decide) ?_
      refine j_icmp_ge 37 10 dX8_doublesOnBelt_7 rfl (by decide) (by omega) (by omega) (fun h_7 => ?_) (fun h_7 => ?_)
      · skip
        obtain rfl : i = 12 := by omega
        refine j_iload_n 1 38 dX8_doublesOnBelt_37 rfl rfl ?_
        exact j_iret dX8_doublesOnBelt_38 rfl (by rfl) (by rfl)
      · skip
        have ci := hr.2.2.2.1 i (by omega) (by omega)
        have r2i := r2 i
        refine j_iload_n 1 11 dX8_doublesOnBelt_10 rfl rfl ?_
        refine j_aload_n 0 12 dX8_doublesOnBelt_11 rfl rfl ?_
        refine j_get 0 0 1 15 in_X8_doublesOnBelt_X8 dX8_doublesOnBelt_12 rfl rfl rfl (by decide) rfl rfl ?_
        refine j_iload_n 2 16 dX8_doublesOnBelt_15 rfl rfl ?_
        refine j_callSi [] 19 [_, _] (c_X8_cupAt E _ ) rfl kX8_doublesOnBelt_X8_cupAt rfl rfl rfl rfl rfl (Nat.le_of_ble_eq_true rfl) (by decide) dX8_doublesOnBelt_16 rfl ?_
        refine j_iald 1 20 dX8_doublesOnBelt_19 rfl rfl (by decide) (by omega) ?_
        rw [← ci.1]
        refine j_iconst 21 dX8_doublesOnBelt_20 rfl ?_
        refine j_icmp_ne 28 24 dX8_doublesOnBelt_21 rfl (by decide) (by omega) (by omega) (fun h_21 => ?_) (fun h_21 => ?_)
        · skip
          refine j_iconst 29 dX8_doublesOnBelt_28 rfl ?_
          refine j_iadd 30 dX8_doublesOnBelt_29 rfl ?_
          refine j_istore_n 31 [_, _, _] dX8_doublesOnBelt_30 rfl (by decide) rfl ?_
          refine j_iinc 2 34 [_, _, _] dX8_doublesOnBelt_31 rfl rfl (by decide) rfl ?_
          refine j_goto 4 dX8_doublesOnBelt_34 (by decide) ?_
          refine j_perm [2, 1, 0] rfl ?_
          have k := ih (i + 1) (by omega) (by omega)
          change jG _ E C _ _ _ _ [_, (_, Value.int (jI (jSum (fun i => if x 2 i = 2 then 1 else 0) i + (if x 2 i = 2 then 1 else 0)))), _] _ _ at k
          first
            | (rw [if_pos (by omega)] at k; exact k)
            | (rw [if_neg (by omega)] at k; exact k)
        · skip
          refine j_iconst 25 dX8_doublesOnBelt_24 rfl ?_
          refine j_goto 29 dX8_doublesOnBelt_25 (by decide) ?_
          refine j_iadd 30 dX8_doublesOnBelt_29 rfl ?_
          refine j_istore_n 31 [_, _, _] dX8_doublesOnBelt_30 rfl (by decide) rfl ?_
          refine j_iinc 2 34 [_, _, _] dX8_doublesOnBelt_31 rfl rfl (by decide) rfl ?_
          refine j_goto 4 dX8_doublesOnBelt_34 (by decide) ?_
          refine j_perm [2, 1, 0] rfl ?_
          have k := ih (i + 1) (by omega) (by omega)
          change jG _ E C _ _ _ _ [_, (_, Value.int (jI (jSum (fun i => if x 2 i = 2 then 1 else 0) i + (if x 2 i = 2 then 1 else 0)))), _] _ _ at k
          first
            | (rw [if_pos (by omega)] at k; exact k)
            | (rw [if_neg (by omega)] at k; exact k)
  refine j_perm [2, 1, 0] rfl ?_
  exact key4 13 0 (by omega) (by omega)
set_option maxRecDepth 20000 in
theorem in_X8_inBoxes_X8 : ∀ x ∈ u_ws RX8 TX8 11, x ∈ wsX8_inBoxes := by decide +kernel
set_option maxRecDepth 100000 in
set_option maxHeartbeats 4000000 in
theorem c_X8_inBoxes (E : jE) (o a : Nat) (fs : List Value) (f : Int → Int) (x : Nat → Int → Int) (m : Int) (hx : sOK x) (hr : Rel x f) (hm : 0 ≤ m ∧ m ≤ 5) : jMI E yX8_inBoxes wsX8_inBoxes rmX8_inBoxes [.ref o, .int (jI m)] (wMs E o a fs f) (jSum (x 5) m.toNat) (wMs E o a fs f) := by
  refine jMI_of (cc := cX8_inBoxes) (maxL := 4) (ret := (some .int)) [(0, .ref o), (1, .int (jI m))] (by decide) rfl rfl (Nat.le_of_ble_eq_true rfl) (fun C => ?_)
  show jG mX8_inBoxes E C (jQi E C (jSum (x 5) m.toNat) (wMs E o a fs f)) 0 0 0 [(0, .ref o), (1, .int (jI m))] [] (wMs E o a fs f)
  refine j_iconst 1 dX8_inBoxes_0 rfl ?_
  refine j_istore_n 2 [_, _, _] dX8_inBoxes_1 rfl (by decide) rfl ?_
  refine j_iconst 3 dX8_inBoxes_2 rfl ?_
  refine j_istore_n 4 [_, _, _, _] dX8_inBoxes_3 rfl (by decide) rfl ?_
  have key4 : ∀ (fu i : Nat), m.toNat < i + fu → (i : Int) ≤ m → jG mX8_inBoxes E C (jQi E C (jSum (x 5) m.toNat) (wMs E o a fs f)) 0 0 4 [(0, .ref o), (1, .int (jI m)), (2, .int (jI (jSum (x 5) i))), (3, .int (jI (i : Int)))] [] (wMs E o a fs f) := by
    intro fu
    induction fu with
    | zero => intro i h1 h2; exact absurd h1 (by omega)
    | succ fu ih =>
      intro i h1 h2
      refine j_iload_n 3 5 dX8_inBoxes_4 rfl rfl ?_
      refine j_iload_n 1 6 dX8_inBoxes_5 rfl rfl ?_
      refine j_icmp_ge 27 9 dX8_inBoxes_6 rfl (by decide) (by omega) (by omega) (fun h_6 => ?_) (fun h_6 => ?_)
      · skip
        obtain rfl : i = m.toNat := by omega
        refine j_iload_n 2 28 dX8_inBoxes_27 rfl rfl ?_
        exact j_iret dX8_inBoxes_28 rfl (by rfl) (by rfl)
      · skip
        have ci := hr.2.2.2.2.1 i (by omega) (by omega)
        refine j_iload_n 2 10 dX8_inBoxes_9 rfl rfl ?_
        refine j_aload_n 0 11 dX8_inBoxes_10 rfl rfl ?_
        refine j_get 0 0 1 14 in_X8_inBoxes_X8 dX8_inBoxes_11 rfl rfl rfl (by decide) rfl rfl ?_
        refine j_bipush 16 dX8_inBoxes_14 rfl (by decide) ?_
        refine j_iload_n 3 17 dX8_inBoxes_16 rfl rfl ?_
        refine j_iadd 18 dX8_inBoxes_17 rfl ?_
        refine j_iald 1 19 dX8_inBoxes_18 rfl rfl (by decide) (by omega) ?_
        rw [← ci.1]
        refine j_iadd 20 dX8_inBoxes_19 rfl ?_
        refine j_istore_n 21 [_, _, _, _] dX8_inBoxes_20 rfl (by decide) rfl ?_
        refine j_iinc 3 24 [_, _, _, _] dX8_inBoxes_21 rfl rfl (by decide) rfl ?_
        refine j_goto 4 dX8_inBoxes_24 (by decide) ?_
        refine j_perm [2, 3, 1, 0] rfl ?_
        exact ih (i + 1) (by omega) (by omega)
  refine j_perm [2, 3, 1, 0] rfl ?_
  exact key4 (m.toNat + 1) 0 (by omega) (by omega)
theorem kX8_wrongOnes_X8_wrongIn : jKv mX8_wrongOnes 147 yX8_wrongIn wsX8_wrongIn rmX8_wrongIn 1 := ⟨gX8_wrongOnes_X8_wrongIn, ⟨_, _, _, _, rfl, by decide⟩, by decide +kernel, rfl, rfl, by decide⟩
set_option maxRecDepth 100000 in
set_option maxHeartbeats 4000000 in
theorem c_X8_wrongOnes (E : jE) (o a : Nat) (fs : List Value) (f : Int → Int) (x : Nat → Int → Int) (hx : sOK x) (hr : Rel x f) : jMI E yX8_wrongOnes wsX8_wrongOnes rmX8_wrongOnes [.ref o] (wMs E o a fs f) (sWa x) (wMs E o a fs f) := by
  refine jMI_of (cc := cX8_wrongOnes) (maxL := 3) (ret := (some .int)) [(0, .ref o)] (by decide) rfl rfl (Nat.le_of_ble_eq_true rfl) (fun C => ?_)
  show jG mX8_wrongOnes E C (jQi E C (sWa x) (wMs E o a fs f)) 0 0 0 [(0, .ref o)] [] (wMs E o a fs f)
  refine j_iconst 1 dX8_wrongOnes_0 rfl ?_
  refine j_istore_n 2 [_, _] dX8_wrongOnes_1 rfl (by decide) rfl ?_
  refine j_iconst 3 dX8_wrongOnes_2 rfl ?_
  refine j_istore_n 4 [_, _, _] dX8_wrongOnes_3 rfl (by decide) rfl ?_
  have key4 : ∀ (fu i : Nat), 4 < i + fu → (i : Int) ≤ 4 → jG mX8_wrongOnes E C (jQi E C (sWa x) (wMs E o a fs f)) 0 0 4 [(0, .ref o), (1, .int (jI (jSum (sWi x) i))), (2, .int (jI (i : Int)))] [] (wMs E o a fs f) := by
    intro fu
    induction fu with
    | zero => intro i h1 h2; exact absurd h1 (by omega)
    | succ fu ih =>
      intro i h1 h2
      refine j_iload_n 2 5 dX8_wrongOnes_4 rfl rfl ?_
      refine j_iconst 6 dX8_wrongOnes_5 rfl ?_
      refine j_icmp_ge 23 9 dX8_wrongOnes_6 rfl (by decide) (by omega) (by omega) (fun h_6 => ?_) (fun h_6 => ?_)
      · skip
        obtain rfl : i = 4 := by omega
        refine j_iload_n 1 24 dX8_wrongOnes_23 rfl rfl ?_
        exact j_iret dX8_wrongOnes_24 rfl (by rfl) (by rfl)
      · skip
        refine j_iload_n 1 10 dX8_wrongOnes_9 rfl rfl ?_
        refine j_aload_n 0 11 dX8_wrongOnes_10 rfl rfl ?_
        refine j_iload_n 2 12 dX8_wrongOnes_11 rfl rfl ?_
        refine j_callVi 0 [0, 1] 15 [_, _] (c_X8_wrongIn E _ _ _ _ _ _ (by exact hx) (by exact hr) (by omega)) rfl kX8_wrongOnes_X8_wrongIn rfl rfl rfl rfl rfl rfl rfl (Nat.le_of_ble_eq_true rfl) (by decide) dX8_wrongOnes_12 rfl ?_
        refine j_iadd 16 dX8_wrongOnes_15 rfl ?_
        refine j_istore_n 17 [_, _, _] dX8_wrongOnes_16 rfl (by decide) rfl ?_
        refine j_iinc 2 20 [_, _, _] dX8_wrongOnes_17 rfl rfl (by decide) rfl ?_
        refine j_goto 4 dX8_wrongOnes_20 (by decide) ?_
        refine j_perm [2, 1, 0] rfl ?_
        exact ih (i + 1) (by omega) (by omega)
  refine j_perm [2, 1, 0] rfl ?_
  exact key4 5 0 (by omega) (by omega)
set_option maxRecDepth 20000 in
theorem in_X8_comeTo_X8 : ∀ x ∈ u_ws RX8 TX8 11, x ∈ wsX8_comeTo := by decide +kernel
theorem kX8_comeTo_X8_cupAt : jKs mX8_comeTo 60 yX8_cupAt wsX8_cupAt rmX8_cupAt 1 := ⟨gX8_comeTo_X8_cupAt, ⟨_, _, _, _, rfl, by decide⟩, by decide +kernel, rfl, rfl, by decide⟩
theorem kX8_comeTo_X8_seen : jKv mX8_comeTo 63 yX8_seen wsX8_seen rmX8_seen 1 := ⟨gX8_comeTo_X8_seen, ⟨_, _, _, _, rfl, by decide⟩, by decide +kernel, rfl, rfl, by decide⟩
theorem kX8_comeTo_X8_laneOf : jKv mX8_comeTo 66 yX8_laneOf wsX8_laneOf rmX8_laneOf 1 := ⟨gX8_comeTo_X8_laneOf, ⟨_, _, _, _, rfl, by decide⟩, by decide +kernel, rfl, rfl, by decide⟩
set_option maxRecDepth 100000 in
set_option maxHeartbeats 4000000 in
theorem c_X8_comeTo (E : jE) (o a : Nat) (fs : List Value) (f : Int → Int) (x : Nat → Int → Int) (l : Int) (hx : sOK x) (hr : Rel x f) (hl : 0 ≤ l ∧ l ≤ 4) : jMI E yX8_comeTo wsX8_comeTo rmX8_comeTo [.ref o, .int (jI l)] (wMs E o a fs f) (sSng x l) (wMs E o a fs f) := by
  refine jMI_of (cc := cX8_comeTo) (maxL := 4) (ret := (some .int)) [(0, .ref o), (1, .int (jI l))] (by decide) rfl rfl (Nat.le_of_ble_eq_true rfl) (fun C => ?_)
  show jG mX8_comeTo E C (jQi E C (sSng x l) (wMs E o a fs f)) 0 0 0 [(0, .ref o), (1, .int (jI l))] [] (wMs E o a fs f)
  have r2 : ∀ i, 0 ≤ x 2 i ∧ x 2 i ≤ 2 := hx 2
  have r3 : ∀ i, -1 ≤ x 3 i ∧ x 3 i ≤ 4 := hx 3
  have r4 : ∀ i, 0 ≤ x 4 i ∧ x 4 i < 404000 := hx 4
  have hrr := Rel_RelR hr
  obtain ⟨g, hg⟩ : ∃ g : Int → Int, g = (fun p => if x 2 p = 1 ∧ sLn x (sSee x (x 4 (2 * p))) = l then 1 else 0) := ⟨_, rfl⟩
  have e0 : sSng x l = jSum g 12 := by rw [hg]; rfl
  refine j_iconst 1 dX8_comeTo_0 rfl ?_
  refine j_istore_n 2 [_, _, _] dX8_comeTo_1 rfl (by decide) rfl ?_
  refine j_iconst 3 dX8_comeTo_2 rfl ?_
  refine j_istore_n 4 [_, _, _, _] dX8_comeTo_3 rfl (by decide) rfl ?_
  have key4 : ∀ (fu i : Nat), 12 < i + fu → (i : Int) ≤ 12 → jG mX8_comeTo E C (jQi E C (sSng x l) (wMs E o a fs f)) 0 0 4 [(0, .ref o), (1, .int (jI l)), (2, .int (jI (jSum g i))), (3, .int (jI (i : Int)))] [] (wMs E o a fs f) := by
    intro fu
    induction fu with
    | zero => intro i h1 h2; exact absurd h1 (by omega)
    | succ fu ih =>
      intro i h1 h2
      refine j_iload_n 3 5 dX8_comeTo_4 rfl rfl ?_
      refine j_bipush 7 dX8_comeTo_5 rfl (by decide) ?_
      refine j_icmp_ge 60 10 dX8_comeTo_7 rfl (by decide) (by omega) (by omega) (fun h_7 => ?_) (fun h_7 => ?_)
      · skip
        obtain rfl : i = 12 := by omega
        refine j_iload_n 2 61 dX8_comeTo_60 rfl rfl ?_
        exact j_iret dX8_comeTo_61 rfl (by rw [e0]) (by rfl)
      · skip
        have ci := hr.2.2.2.1 i (by omega) (by omega)
        have r2i := r2 i
        have r4i := r4 (2 * i)
        refine j_iload_n 2 11 dX8_comeTo_10 rfl rfl ?_
        refine j_aload_n 0 12 dX8_comeTo_11 rfl rfl ?_
        refine j_get 0 0 1 15 in_X8_comeTo_X8 dX8_comeTo_12 rfl rfl rfl (by decide) rfl rfl ?_
        refine j_iload_n 3 16 dX8_comeTo_15 rfl rfl ?_
        refine j_callSi [] 19 [_, _] (c_X8_cupAt E _ ) rfl kX8_comeTo_X8_cupAt rfl rfl rfl rfl rfl (Nat.le_of_ble_eq_true rfl) (by decide) dX8_comeTo_16 rfl ?_
        refine j_iald 1 20 dX8_comeTo_19 rfl rfl (by decide) (by omega) ?_
        refine j_iconst 21 dX8_comeTo_20 rfl ?_
        refine j_icmp_ne 51 24 dX8_comeTo_21 rfl (by decide) (by omega) (by omega) (fun h_21 => ?_) (fun h_21 => ?_)
        · skip
          refine j_iconst 52 dX8_comeTo_51 rfl ?_
          refine j_iadd 53 dX8_comeTo_52 rfl ?_
          refine j_istore_n 54 [_, _, _, _] dX8_comeTo_53 rfl (by decide) rfl ?_
          refine j_iinc 3 57 [_, _, _, _] dX8_comeTo_54 rfl rfl (by decide) rfl ?_
          refine j_goto 4 dX8_comeTo_57 (by decide) ?_
          refine j_perm [2, 3, 1, 0] rfl ?_
          have k := ih (i + 1) (by omega) (by omega)
          rw [jSum] at k
          first
            | (rw [show g i = 1 by rw [hg]; exact if_pos (by omega)] at k; exact k)
            | (rw [show g i = 0 by rw [hg]; exact if_neg (by omega)] at k; exact k)
        · skip
          have ca := ci.2.2 0 (by omega) (by omega)
          rw [show (2 * (i : Int) + 0) = 2 * i by omega, show (37 + 4 * (i : Int) + 1 + 0) = 37 + 4 * i + 1 by omega] at ca
          have sl := sLn_rng hx (sSee x (x 4 (2 * i)))
          have ss := sSee_rng (t := x 4 (2 * i)) hx r4i
          refine j_aload_n 0 25 dX8_comeTo_24 rfl rfl ?_
          refine j_aload_n 0 26 dX8_comeTo_25 rfl rfl ?_
          refine j_aload_n 0 27 dX8_comeTo_26 rfl rfl ?_
          refine j_get 0 0 1 30 in_X8_comeTo_X8 dX8_comeTo_27 rfl rfl rfl (by decide) rfl rfl ?_
          refine j_iload_n 3 31 dX8_comeTo_30 rfl rfl ?_
          refine j_callSi [] 34 [_, _] (c_X8_cupAt E _ ) rfl kX8_comeTo_X8_cupAt rfl rfl rfl rfl rfl (Nat.le_of_ble_eq_true rfl) (by decide) dX8_comeTo_31 rfl ?_
          refine j_iconst 35 dX8_comeTo_34 rfl ?_
          refine j_iadd 36 dX8_comeTo_35 rfl ?_
          refine j_iald 1 37 dX8_comeTo_36 rfl rfl (by decide) (by omega) ?_
          rw [← ca]
          refine j_callVi 0 [0, 1] 40 [_, _] (c_X8_seen E _ _ _ _ _ _ (by exact hx) (by exact hrr) (by omega)) rfl kX8_comeTo_X8_seen rfl rfl rfl rfl rfl rfl rfl (Nat.le_of_ble_eq_true rfl) (by decide) dX8_comeTo_37 rfl ?_
          refine j_callVi 0 [0, 1] 43 [_, _] (c_X8_laneOf E _ _ _ _ _ _ (by exact hx) (by exact hrr) (by omega)) rfl kX8_comeTo_X8_laneOf rfl rfl rfl rfl rfl rfl rfl (Nat.le_of_ble_eq_true rfl) (by decide) dX8_comeTo_40 rfl ?_
          refine j_iload_n 1 44 dX8_comeTo_43 rfl rfl ?_
          refine j_icmp_ne 51 47 dX8_comeTo_44 rfl (by decide) (by omega) (by omega) (fun h_44 => ?_) (fun h_44 => ?_)
          · skip
            refine j_iconst 52 dX8_comeTo_51 rfl ?_
            refine j_iadd 53 dX8_comeTo_52 rfl ?_
            refine j_istore_n 54 [_, _, _, _] dX8_comeTo_53 rfl (by decide) rfl ?_
            refine j_iinc 3 57 [_, _, _, _] dX8_comeTo_54 rfl rfl (by decide) rfl ?_
            refine j_goto 4 dX8_comeTo_57 (by decide) ?_
            refine j_perm [2, 3, 1, 0] rfl ?_
            have k := ih (i + 1) (by omega) (by omega)
            rw [jSum] at k
            first
              | (rw [show g i = 1 by rw [hg]; exact if_pos (by omega)] at k; exact k)
              | (rw [show g i = 0 by rw [hg]; exact if_neg (by omega)] at k; exact k)
          · skip
            refine j_iconst 48 dX8_comeTo_47 rfl ?_
            refine j_goto 52 dX8_comeTo_48 (by decide) ?_
            refine j_iadd 53 dX8_comeTo_52 rfl ?_
            refine j_istore_n 54 [_, _, _, _] dX8_comeTo_53 rfl (by decide) rfl ?_
            refine j_iinc 3 57 [_, _, _, _] dX8_comeTo_54 rfl rfl (by decide) rfl ?_
            refine j_goto 4 dX8_comeTo_57 (by decide) ?_
            refine j_perm [2, 3, 1, 0] rfl ?_
            have k := ih (i + 1) (by omega) (by omega)
            rw [jSum] at k
            first
              | (rw [show g i = 1 by rw [hg]; exact if_pos (by omega)] at k; exact k)
              | (rw [show g i = 0 by rw [hg]; exact if_neg (by omega)] at k; exact k)
  refine j_perm [2, 3, 1, 0] rfl ?_
  exact key4 13 0 (by omega) (by omega)
set_option maxRecDepth 20000 in
theorem in_X8_ticksOf_X8 : ∀ x ∈ u_ws RX8 TX8 11, x ∈ wsX8_ticksOf := by decide +kernel
theorem kX8_ticksOf_X8_cupAt : jKs mX8_ticksOf 60 yX8_cupAt wsX8_cupAt rmX8_cupAt 1 := ⟨gX8_ticksOf_X8_cupAt, ⟨_, _, _, _, rfl, by decide⟩, by decide +kernel, rfl, rfl, by decide⟩
theorem kX8_ticksOf_X8_gradeOf : jKv mX8_ticksOf 69 yX8_gradeOf wsX8_gradeOf rmX8_gradeOf 1 := ⟨gX8_ticksOf_X8_gradeOf, ⟨_, _, _, _, rfl, by decide⟩, by decide +kernel, rfl, rfl, by decide⟩
set_option maxRecDepth 100000 in
set_option maxHeartbeats 4000000 in
theorem c_X8_ticksOf (E : jE) (o a : Nat) (fs : List Value) (f : Int → Int) (x : Nat → Int → Int) (p : Int) (hx : sOK x) (hr : Rel x f) (hp : 0 ≤ p ∧ p < 12) (hs : x 2 p ≠ 0) : jMI E yX8_ticksOf wsX8_ticksOf rmX8_ticksOf [.ref o, .int (jI p)] (wMs E o a fs f) (sTtf x p) (wMs E o a fs f) := by
  refine jMI_of (cc := cX8_ticksOf) (maxL := 3) (ret := (some .int)) [(0, .ref o), (1, .int (jI p))] (by decide) rfl rfl (Nat.le_of_ble_eq_true rfl) (fun C => ?_)
  show jG mX8_ticksOf E C (jQi E C (sTtf x p) (wMs E o a fs f)) 0 0 0 [(0, .ref o), (1, .int (jI p))] [] (wMs E o a fs f)
  have r2 : ∀ i, 0 ≤ x 2 i ∧ x 2 i ≤ 2 := hx 2
  have r3 : ∀ i, -1 ≤ x 3 i ∧ x 3 i ≤ 4 := hx 3
  have r4 : ∀ i, 0 ≤ x 4 i ∧ x 4 i < 404000 := hx 4
  have hrr := Rel_RelR hr
  have r2p := r2 p
  have r3p := r3 p
  have gg := sGtc_rng hx
  have c0 := Rel_cup0 hr
  have cp := hr.2.2.2.1 p hp.1 hp.2
  have e : sTtf x p = (if (if p = 0 then sGtc x else x 3 p) = 4 then 12 else 2 + 2 * (if p = 0 then sGtc x else x 3 p)) - p := if_neg hs
  rw [e]
  refine j_iload_n 1 1 dX8_ticksOf_0 rfl rfl ?_
  refine j_if_ne 12 4 dX8_ticksOf_1 rfl (by decide) (by omega) (fun h_1 => ?_) (fun h_1 => ?_)
  · skip
    rw [if_neg h_1]
    refine j_aload_n 0 13 dX8_ticksOf_12 rfl rfl ?_
    refine j_get 0 0 1 16 in_X8_ticksOf_X8 dX8_ticksOf_13 rfl rfl rfl (by decide) rfl rfl ?_
    refine j_iload_n 1 17 dX8_ticksOf_16 rfl rfl ?_
    refine j_callSi [] 20 [_, _] (c_X8_cupAt E _ ) rfl kX8_ticksOf_X8_cupAt rfl rfl rfl rfl rfl (Nat.le_of_ble_eq_true rfl) (by decide) dX8_ticksOf_17 rfl ?_
    refine j_iconst 21 dX8_ticksOf_20 rfl ?_
    refine j_iadd 22 dX8_ticksOf_21 rfl ?_
    refine j_iald 1 23 dX8_ticksOf_22 rfl rfl (by decide) (by omega) ?_
    refine j_iconst 24 dX8_ticksOf_23 rfl ?_
    refine j_isub 25 dX8_ticksOf_24 rfl ?_
    refine j_istore_n 26 [_, _, _] dX8_ticksOf_25 rfl (by decide) rfl ?_
    refine j_iload_n 0 27 dX8_ticksOf_26 rfl rfl ?_
    refine j_iconst 28 dX8_ticksOf_27 rfl ?_
    refine j_icmp_ne 38 31 dX8_ticksOf_28 rfl (by decide) (by omega) (by omega) (fun h_28 => ?_) (fun h_28 => ?_)
    · skip
      refine j_iconst 39 dX8_ticksOf_38 rfl ?_
      refine j_iconst 40 dX8_ticksOf_39 rfl ?_
      refine j_iload_n 0 41 dX8_ticksOf_40 rfl rfl ?_
      refine j_imul 42 dX8_ticksOf_41 rfl ?_
      refine j_iadd 43 dX8_ticksOf_42 rfl ?_
      refine j_iload_n 2 44 dX8_ticksOf_43 rfl rfl ?_
      refine j_isub 45 dX8_ticksOf_44 rfl ?_
      exact j_iret dX8_ticksOf_45 rfl (by congr 1; split <;> omega) (by rfl)
    · skip
      refine j_bipush 33 dX8_ticksOf_31 rfl (by decide) ?_
      refine j_iload_n 2 34 dX8_ticksOf_33 rfl rfl ?_
      refine j_isub 35 dX8_ticksOf_34 rfl ?_
      refine j_goto 45 dX8_ticksOf_35 (by decide) ?_
      exact j_iret dX8_ticksOf_45 rfl (by congr 1; split <;> omega) (by rfl)
  · skip
    rw [if_pos h_1]
    subst h_1
    refine j_aload_n 0 5 dX8_ticksOf_4 rfl rfl ?_
    refine j_iconst 6 dX8_ticksOf_5 rfl ?_
    refine j_callVi 0 [0, 1] 9 [_, _] (c_X8_gradeOf E o a fs f x (by exact hx) (by exact hrr) (by exact ⟨c0.1, by omega⟩) (by exact c0.2.2.1 (by omega))) rfl kX8_ticksOf_X8_gradeOf rfl rfl rfl rfl rfl rfl rfl (Nat.le_of_ble_eq_true rfl) (by decide) dX8_ticksOf_6 rfl ?_
    refine j_goto 25 dX8_ticksOf_9 (by decide) ?_
    refine j_istore_n 26 [_, _, _] dX8_ticksOf_25 rfl (by decide) rfl ?_
    refine j_iload_n 0 27 dX8_ticksOf_26 rfl rfl ?_
    refine j_iconst 28 dX8_ticksOf_27 rfl ?_
    refine j_icmp_ne 38 31 dX8_ticksOf_28 rfl (by decide) (by omega) (by omega) (fun h_28 => ?_) (fun h_28 => ?_)
    · skip
      refine j_iconst 39 dX8_ticksOf_38 rfl ?_
      refine j_iconst 40 dX8_ticksOf_39 rfl ?_
      refine j_iload_n 0 41 dX8_ticksOf_40 rfl rfl ?_
      refine j_imul 42 dX8_ticksOf_41 rfl ?_
      refine j_iadd 43 dX8_ticksOf_42 rfl ?_
      refine j_iload_n 2 44 dX8_ticksOf_43 rfl rfl ?_
      refine j_isub 45 dX8_ticksOf_44 rfl ?_
      exact j_iret dX8_ticksOf_45 rfl (by congr 1; split <;> omega) (by rfl)
    · skip
      refine j_bipush 33 dX8_ticksOf_31 rfl (by decide) ?_
      refine j_iload_n 2 34 dX8_ticksOf_33 rfl rfl ?_
      refine j_isub 35 dX8_ticksOf_34 rfl ?_
      refine j_goto 45 dX8_ticksOf_35 (by decide) ?_
      exact j_iret dX8_ticksOf_45 rfl (by congr 1; split <;> omega) (by rfl)
