set_option maxRecDepth 100000 in
set_option maxHeartbeats 4000000 in
theorem c_X6_weight (E : jE) (t : Int) (h0 : 0 ≤ t ∧ t < 2147483648) : jMI E yX6_weight wsX6_weight rmX6_weight [.int (jI t)] ([]) (tW t) ([]) := by
  refine jMI_of (cc := cX6_weight) (maxL := 1) (ret := (some .int)) [(0, .int (jI t))] (by decide) rfl rfl (Nat.le_of_ble_eq_true rfl) (fun C => ?_)
  show jG mX6_weight E C (jQi E C (tW t) ([])) 0 0 0 [(0, .int (jI t))] [] ([])
  refine j_iload_n 0 1 dX6_weight_0 rfl rfl ?_
  refine j_sipush 4 dX6_weight_1 rfl (by decide) ?_
  refine j_idiv 5 dX6_weight_4 rfl (by omega) (by decide) ?_
  exact j_iret dX6_weight_5 rfl (by first | rfl | (congr 1; omega)) (by rfl)
set_option maxRecDepth 100000 in
set_option maxHeartbeats 4000000 in
theorem c_X6_red (E : jE) (t : Int) (h0 : 0 ≤ t ∧ t < 2147483648) : jMI E yX6_red wsX6_red rmX6_red [.int (jI t)] ([]) (tR t) ([]) := by
  refine jMI_of (cc := cX6_red) (maxL := 1) (ret := (some .int)) [(0, .int (jI t))] (by decide) rfl rfl (Nat.le_of_ble_eq_true rfl) (fun C => ?_)
  show jG mX6_red E C (jQi E C (tR t) ([])) 0 0 0 [(0, .int (jI t))] [] ([])
  refine j_iload_n 0 1 dX6_red_0 rfl rfl ?_
  refine j_bipush 3 dX6_red_1 rfl (by decide) ?_
  refine j_idiv 4 dX6_red_3 rfl (by omega) (by decide) ?_
  refine j_bipush 6 dX6_red_4 rfl (by decide) ?_
  refine j_irem 7 dX6_red_6 rfl (by omega) (by decide) ?_
  exact j_iret dX6_red_7 rfl (by first | rfl | (congr 1; omega)) (by rfl)
set_option maxRecDepth 100000 in
set_option maxHeartbeats 4000000 in
theorem c_X6_bruise (E : jE) (t : Int) (h0 : 0 ≤ t ∧ t < 2147483648) : jMI E yX6_bruise wsX6_bruise rmX6_bruise [.int (jI t)] ([]) (tB t) ([]) := by
  refine jMI_of (cc := cX6_bruise) (maxL := 1) (ret := (some .int)) [(0, .int (jI t))] (by decide) rfl rfl (Nat.le_of_ble_eq_true rfl) (fun C => ?_)
  show jG mX6_bruise E C (jQi E C (tB t) ([])) 0 0 0 [(0, .int (jI t))] [] ([])
  refine j_iload_n 0 1 dX6_bruise_0 rfl rfl ?_
  refine j_bipush 3 dX6_bruise_1 rfl (by decide) ?_
  refine j_irem 4 dX6_bruise_3 rfl (by omega) (by decide) ?_
  exact j_iret dX6_bruise_4 rfl (by first | rfl | (congr 1; omega)) (by rfl)
set_option maxRecDepth 100000 in
set_option maxHeartbeats 4000000 in
theorem c_X6_of (E : jE) (a r b : Int)  : jMI E yX6_of wsX6_of rmX6_of [.int (jI a), .int (jI r), .int (jI b)] ([]) (tOf a r b) ([]) := by
  refine jMI_of (cc := cX6_of) (maxL := 3) (ret := (some .int)) [(0, .int (jI a)), (1, .int (jI r)), (2, .int (jI b))] (by decide) rfl rfl (Nat.le_of_ble_eq_true rfl) (fun C => ?_)
  show jG mX6_of E C (jQi E C (tOf a r b) ([])) 0 0 0 [(0, .int (jI a)), (1, .int (jI r)), (2, .int (jI b))] [] ([])
  refine j_iload_n 0 1 dX6_of_0 rfl rfl ?_
  refine j_bipush 3 dX6_of_1 rfl (by decide) ?_
  refine j_imul 4 dX6_of_3 rfl ?_
  refine j_iload_n 1 5 dX6_of_4 rfl rfl ?_
  refine j_iadd 6 dX6_of_5 rfl ?_
  refine j_bipush 8 dX6_of_6 rfl (by decide) ?_
  refine j_imul 9 dX6_of_8 rfl ?_
  refine j_iload_n 2 10 dX6_of_9 rfl rfl ?_
  refine j_iadd 11 dX6_of_10 rfl ?_
  exact j_iret dX6_of_11 rfl (by first | rfl | (congr 1; omega)) (by rfl)
set_option maxRecDepth 100000 in
set_option maxHeartbeats 4000000 in
theorem c_X6_inRange (E : jE) (a r b : Int) (h1 : -2147483648 ≤ a ∧ a < 2147483648) (h2 : -2147483648 ≤ r ∧ r < 2147483648) (h3 : -2147483648 ≤ b ∧ b < 2147483648) : jMI E yX6_inRange wsX6_inRange rmX6_inRange [.int (jI a), .int (jI r), .int (jI b)] ([]) (tIn a r b) ([]) := by
  refine jMI_of (cc := cX6_inRange) (maxL := 3) (ret := (some .boolean)) [(0, .int (jI a)), (1, .int (jI r)), (2, .int (jI b))] (by decide) rfl rfl (Nat.le_of_ble_eq_true rfl) (fun C => ?_)
  show jG mX6_inRange E C (jQi E C (tIn a r b) ([])) 0 0 0 [(0, .int (jI a)), (1, .int (jI r)), (2, .int (jI b))] [] ([])
  refine j_iload_n 0 1 dX6_inRange_0 rfl rfl ?_
  refine j_bipush 3 dX6_inRange_1 rfl (by decide) ?_
  refine j_icmp_lt 37 6 dX6_inRange_3 rfl (by decide) (by omega) (by omega) (fun h_3 => ?_) (fun h_3 => ?_)
  · skip
    refine j_iconst 38 dX6_inRange_37 rfl ?_
    exact j_zret dX6_inRange_38 rfl (by unfold tIn; split <;> omega) (by decide) (by rfl)
  · skip
    refine j_iload_n 0 7 dX6_inRange_6 rfl rfl ?_
    refine j_sipush 10 dX6_inRange_7 rfl (by decide) ?_
    refine j_icmp_gt 37 13 dX6_inRange_10 rfl (by decide) (by omega) (by omega) (fun h_10 => ?_) (fun h_10 => ?_)
    · skip
      refine j_iconst 38 dX6_inRange_37 rfl ?_
      exact j_zret dX6_inRange_38 rfl (by unfold tIn; split <;> omega) (by decide) (by rfl)
    · skip
      refine j_iload_n 1 14 dX6_inRange_13 rfl rfl ?_
      refine j_if_lt 37 17 dX6_inRange_14 rfl (by decide) (by omega) (fun h_14 => ?_) (fun h_14 => ?_)
      · skip
        refine j_iconst 38 dX6_inRange_37 rfl ?_
        exact j_zret dX6_inRange_38 rfl (by unfold tIn; split <;> omega) (by decide) (by rfl)
      · skip
        refine j_iload_n 1 18 dX6_inRange_17 rfl rfl ?_
        refine j_bipush 20 dX6_inRange_18 rfl (by decide) ?_
        refine j_icmp_gt 37 23 dX6_inRange_20 rfl (by decide) (by omega) (by omega) (fun h_20 => ?_) (fun h_20 => ?_)
        · skip
          refine j_iconst 38 dX6_inRange_37 rfl ?_
          exact j_zret dX6_inRange_38 rfl (by unfold tIn; split <;> omega) (by decide) (by rfl)
        · skip
          refine j_iload_n 2 24 dX6_inRange_23 rfl rfl ?_
          refine j_if_lt 37 27 dX6_inRange_24 rfl (by decide) (by omega) (fun h_24 => ?_) (fun h_24 => ?_)
          · skip
            refine j_iconst 38 dX6_inRange_37 rfl ?_
            exact j_zret dX6_inRange_38 rfl (by unfold tIn; split <;> omega) (by decide) (by rfl)
          · skip
            refine j_iload_n 2 28 dX6_inRange_27 rfl rfl ?_
            refine j_bipush 30 dX6_inRange_28 rfl (by decide) ?_
            refine j_icmp_gt 37 33 dX6_inRange_30 rfl (by decide) (by omega) (by omega) (fun h_30 => ?_) (fun h_30 => ?_)
            · skip
              refine j_iconst 38 dX6_inRange_37 rfl ?_
              exact j_zret dX6_inRange_38 rfl (by unfold tIn; split <;> omega) (by decide) (by rfl)
            · skip
              refine j_iconst 34 dX6_inRange_33 rfl ?_
              refine j_goto 38 dX6_inRange_34 (by decide) ?_
              exact j_zret dX6_inRange_38 rfl (by unfold tIn; split <;> omega) (by decide) (by rfl)
theorem kX6_shortOf_X6_weight : jKs mX6_shortOf 11 yX6_weight wsX6_weight rmX6_weight 1 := ⟨gX6_shortOf_X6_weight, ⟨_, _, _, _, rfl, by decide⟩, by decide +kernel, rfl, rfl, by decide⟩
theorem kX6_shortOf_X6_red : jKs mX6_shortOf 15 yX6_red wsX6_red rmX6_red 1 := ⟨gX6_shortOf_X6_red, ⟨_, _, _, _, rfl, by decide⟩, by decide +kernel, rfl, rfl, by decide⟩
theorem kX6_shortOf_X6_bruise : jKs mX6_shortOf 18 yX6_bruise wsX6_bruise rmX6_bruise 1 := ⟨gX6_shortOf_X6_bruise, ⟨_, _, _, _, rfl, by decide⟩, by decide +kernel, rfl, rfl, by decide⟩
set_option maxRecDepth 100000 in
set_option maxHeartbeats 4000000 in
theorem c_X6_shortOf (E : jE) (b t : Int) (h1 : 0 ≤ b ∧ b < 2147483648) (h2 : 0 ≤ t ∧ t < 2147483648) : jMI E yX6_shortOf wsX6_shortOf rmX6_shortOf [.int (jI b), .int (jI t)] ([]) (tShort b t) ([]) := by
  refine jMI_of (cc := cX6_shortOf) (maxL := 3) (ret := (some .int)) [(0, .int (jI b)), (1, .int (jI t))] (by decide) rfl rfl (Nat.le_of_ble_eq_true rfl) (fun C => ?_)
  show jG mX6_shortOf E C (jQi E C (tShort b t) ([])) 0 0 0 [(0, .int (jI b)), (1, .int (jI t))] [] ([])
  have w1 := tW_rng h1
  have w2 := tW_rng h2
  have r1 := tR_rng b
  have r2 := tR_rng t
  have b1 := tB_rng b
  have b2 := tB_rng t
  refine j_iconst 1 dX6_shortOf_0 rfl ?_
  refine j_istore_n 2 [_, _, _] dX6_shortOf_1 rfl (by decide) rfl ?_
  refine j_iload_n 2 3 dX6_shortOf_2 rfl rfl ?_
  refine j_callSi [] 6 [] (c_X6_weight E _ (by omega)) rfl kX6_shortOf_X6_weight rfl rfl rfl rfl rfl (Nat.le_of_ble_eq_true rfl) (by decide) dX6_shortOf_3 rfl ?_
  refine j_iload_n 1 7 dX6_shortOf_6 rfl rfl ?_
  refine j_callSi [] 10 [] (c_X6_weight E _ (by omega)) rfl kX6_shortOf_X6_weight rfl rfl rfl rfl rfl (Nat.le_of_ble_eq_true rfl) (by decide) dX6_shortOf_7 rfl ?_
  refine j_icmp_ge 16 13 dX6_shortOf_10 rfl (by decide) (by omega) (by omega) (fun h_10 => ?_) (fun h_10 => ?_)
  · skip
    refine j_iload_n 2 17 dX6_shortOf_16 rfl rfl ?_
    refine j_callSi [] 20 [] (c_X6_red E _ (by omega)) rfl kX6_shortOf_X6_red rfl rfl rfl rfl rfl (Nat.le_of_ble_eq_true rfl) (by decide) dX6_shortOf_17 rfl ?_
    refine j_iload_n 1 21 dX6_shortOf_20 rfl rfl ?_
    refine j_callSi [] 24 [] (c_X6_red E _ (by omega)) rfl kX6_shortOf_X6_red rfl rfl rfl rfl rfl (Nat.le_of_ble_eq_true rfl) (by decide) dX6_shortOf_21 rfl ?_
    refine j_icmp_ge 30 27 dX6_shortOf_24 rfl (by decide) (by omega) (by omega) (fun h_24 => ?_) (fun h_24 => ?_)
    · skip
      refine j_iload_n 2 31 dX6_shortOf_30 rfl rfl ?_
      refine j_callSi [] 34 [] (c_X6_bruise E _ (by omega)) rfl kX6_shortOf_X6_bruise rfl rfl rfl rfl rfl (Nat.le_of_ble_eq_true rfl) (by decide) dX6_shortOf_31 rfl ?_
      refine j_iload_n 1 35 dX6_shortOf_34 rfl rfl ?_
      refine j_callSi [] 38 [] (c_X6_bruise E _ (by omega)) rfl kX6_shortOf_X6_bruise rfl rfl rfl rfl rfl (Nat.le_of_ble_eq_true rfl) (by decide) dX6_shortOf_35 rfl ?_
      refine j_icmp_le 44 41 dX6_shortOf_38 rfl (by decide) (by omega) (by omega) (fun h_38 => ?_) (fun h_38 => ?_)
      · skip
        refine j_iload_n 0 45 dX6_shortOf_44 rfl rfl ?_
        exact j_iret dX6_shortOf_45 rfl (by congr 1; simp only [tShort]; (repeat' split) <;> omega) (by rfl)
      · skip
        refine j_iinc 0 44 [_, _, _] dX6_shortOf_41 rfl rfl (by decide) rfl ?_
        refine j_iload_n 0 45 dX6_shortOf_44 rfl rfl ?_
        exact j_iret dX6_shortOf_45 rfl (by congr 1; simp only [tShort]; (repeat' split) <;> omega) (by rfl)
    · skip
      refine j_iinc 0 30 [_, _, _] dX6_shortOf_27 rfl rfl (by decide) rfl ?_
      refine j_iload_n 2 31 dX6_shortOf_30 rfl rfl ?_
      refine j_callSi [] 34 [] (c_X6_bruise E _ (by omega)) rfl kX6_shortOf_X6_bruise rfl rfl rfl rfl rfl (Nat.le_of_ble_eq_true rfl) (by decide) dX6_shortOf_31 rfl ?_
      refine j_iload_n 1 35 dX6_shortOf_34 rfl rfl ?_
      refine j_callSi [] 38 [] (c_X6_bruise E _ (by omega)) rfl kX6_shortOf_X6_bruise rfl rfl rfl rfl rfl (Nat.le_of_ble_eq_true rfl) (by decide) dX6_shortOf_35 rfl ?_
      refine j_icmp_le 44 41 dX6_shortOf_38 rfl (by decide) (by omega) (by omega) (fun h_38 => ?_) (fun h_38 => ?_)
      · skip
        refine j_iload_n 0 45 dX6_shortOf_44 rfl rfl ?_
        exact j_iret dX6_shortOf_45 rfl (by congr 1; simp only [tShort]; (repeat' split) <;> omega) (by rfl)
      · skip
        refine j_iinc 0 44 [_, _, _] dX6_shortOf_41 rfl rfl (by decide) rfl ?_
        refine j_iload_n 0 45 dX6_shortOf_44 rfl rfl ?_
        exact j_iret dX6_shortOf_45 rfl (by congr 1; simp only [tShort]; (repeat' split) <;> omega) (by rfl)
  · skip
    refine j_iinc 0 16 [_, _, _] dX6_shortOf_13 rfl rfl (by decide) rfl ?_
    refine j_iload_n 2 17 dX6_shortOf_16 rfl rfl ?_
    refine j_callSi [] 20 [] (c_X6_red E _ (by omega)) rfl kX6_shortOf_X6_red rfl rfl rfl rfl rfl (Nat.le_of_ble_eq_true rfl) (by decide) dX6_shortOf_17 rfl ?_
    refine j_iload_n 1 21 dX6_shortOf_20 rfl rfl ?_
    refine j_callSi [] 24 [] (c_X6_red E _ (by omega)) rfl kX6_shortOf_X6_red rfl rfl rfl rfl rfl (Nat.le_of_ble_eq_true rfl) (by decide) dX6_shortOf_21 rfl ?_
    refine j_icmp_ge 30 27 dX6_shortOf_24 rfl (by decide) (by omega) (by omega) (fun h_24 => ?_) (fun h_24 => ?_)
    · skip
      refine j_iload_n 2 31 dX6_shortOf_30 rfl rfl ?_
      refine j_callSi [] 34 [] (c_X6_bruise E _ (by omega)) rfl kX6_shortOf_X6_bruise rfl rfl rfl rfl rfl (Nat.le_of_ble_eq_true rfl) (by decide) dX6_shortOf_31 rfl ?_
      refine j_iload_n 1 35 dX6_shortOf_34 rfl rfl ?_
      refine j_callSi [] 38 [] (c_X6_bruise E _ (by omega)) rfl kX6_shortOf_X6_bruise rfl rfl rfl rfl rfl (Nat.le_of_ble_eq_true rfl) (by decide) dX6_shortOf_35 rfl ?_
      refine j_icmp_le 44 41 dX6_shortOf_38 rfl (by decide) (by omega) (by omega) (fun h_38 => ?_) (fun h_38 => ?_)
      · skip
        refine j_iload_n 0 45 dX6_shortOf_44 rfl rfl ?_
        exact j_iret dX6_shortOf_45 rfl (by congr 1; simp only [tShort]; (repeat' split) <;> omega) (by rfl)
      · skip
        refine j_iinc 0 44 [_, _, _] dX6_shortOf_41 rfl rfl (by decide) rfl ?_
        refine j_iload_n 0 45 dX6_shortOf_44 rfl rfl ?_
        exact j_iret dX6_shortOf_45 rfl (by congr 1; simp only [tShort]; (repeat' split) <;> omega) (by rfl)
    · skip
      refine j_iinc 0 30 [_, _, _] dX6_shortOf_27 rfl rfl (by decide) rfl ?_
      refine j_iload_n 2 31 dX6_shortOf_30 rfl rfl ?_
      refine j_callSi [] 34 [] (c_X6_bruise E _ (by omega)) rfl kX6_shortOf_X6_bruise rfl rfl rfl rfl rfl (Nat.le_of_ble_eq_true rfl) (by decide) dX6_shortOf_31 rfl ?_
      refine j_iload_n 1 35 dX6_shortOf_34 rfl rfl ?_
      refine j_callSi [] 38 [] (c_X6_bruise E _ (by omega)) rfl kX6_shortOf_X6_bruise rfl rfl rfl rfl rfl (Nat.le_of_ble_eq_true rfl) (by decide) dX6_shortOf_35 rfl ?_
      refine j_icmp_le 44 41 dX6_shortOf_38 rfl (by decide) (by omega) (by omega) (fun h_38 => ?_) (fun h_38 => ?_)
      · skip
        refine j_iload_n 0 45 dX6_shortOf_44 rfl rfl ?_
        exact j_iret dX6_shortOf_45 rfl (by congr 1; simp only [tShort]; (repeat' split) <;> omega) (by rfl)
      · skip
        refine j_iinc 0 44 [_, _, _] dX6_shortOf_41 rfl rfl (by decide) rfl ?_
        refine j_iload_n 0 45 dX6_shortOf_44 rfl rfl ?_
        exact j_iret dX6_shortOf_45 rfl (by congr 1; simp only [tShort]; (repeat' split) <;> omega) (by rfl)
set_option maxRecDepth 20000 in
theorem in_X0_firstIn_X0 : ∀ x ∈ u_ws RX0 TX0 3, x ∈ wsX0_firstIn := by decide +kernel
set_option maxRecDepth 100000 in
set_option maxHeartbeats 4000000 in
theorem c_X0_firstIn (E : jE) (o a b c : Nat) (x y z : Int → Int) (p : Int) (h0 : 0 ≤ p ∧ p < 12) : jMI E yX0_firstIn wsX0_firstIn rmX0_firstIn [.ref o, .int (jI p)] (wBelt E o a b c x y z) (z (2 * p)) (wBelt E o a b c x y z) := by
  refine jMI_of (cc := cX0_firstIn) (maxL := 2) (ret := (some .int)) [(0, .ref o), (1, .int (jI p))] (by decide) rfl rfl (Nat.le_of_ble_eq_true rfl) (fun C => ?_)
  show jG mX0_firstIn E C (jQi E C (z (2 * p)) (wBelt E o a b c x y z)) 0 0 0 [(0, .ref o), (1, .int (jI p))] [] (wBelt E o a b c x y z)
  refine j_aload_n 0 1 dX0_firstIn_0 rfl rfl ?_
  refine j_get 0 2 1 4 in_X0_firstIn_X0 dX0_firstIn_1 rfl rfl rfl (by decide) rfl rfl ?_
  refine j_iconst 5 dX0_firstIn_4 rfl ?_
  refine j_iload_n 1 6 dX0_firstIn_5 rfl rfl ?_
  refine j_imul 7 dX0_firstIn_6 rfl ?_
  refine j_iald 3 8 dX0_firstIn_7 rfl rfl (by decide) (by omega) ?_
  exact j_iret dX0_firstIn_8 rfl (by first | rfl | (congr 1; omega)) (by rfl)
set_option maxRecDepth 20000 in
theorem in_X0_layBelowEye_X0 : ∀ x ∈ u_ws RX0 TX0 3, x ∈ wsX0_layBelowEye := by decide +kernel
set_option maxRecDepth 100000 in
set_option maxHeartbeats 4000000 in
theorem c_X0_layBelowEye (E : jE) (o a b c : Nat) (x y z : Int → Int) (t : Int) (h0 : 0 ≤ x 0 ∧ x 0 < 2) : jMV E yX0_layBelowEye wsX0_layBelowEye rmX0_layBelowEye [.ref o, .int (jI t)] (wBelt E o a b c x y z) (wBelt E o a b c (jU x 0 (x 0 + 1)) y (jU z (x 0) t)) := by
  refine jMV_of (cc := cX0_layBelowEye) (maxL := 2) (ret := none) [(0, .ref o), (1, .int (jI t))] (by decide) rfl rfl (Nat.le_of_ble_eq_true rfl) (fun C => ?_)
  show jG mX0_layBelowEye E C (jQv E C (wBelt E o a b c (jU x 0 (x 0 + 1)) y (jU z (x 0) t))) 0 0 0 [(0, .ref o), (1, .int (jI t))] [] (wBelt E o a b c x y z)
  refine j_aload_n 0 1 dX0_layBelowEye_0 rfl rfl ?_
  refine j_get 0 0 1 4 in_X0_layBelowEye_X0 dX0_layBelowEye_1 rfl rfl rfl (by decide) rfl rfl ?_
  refine j_iconst 5 dX0_layBelowEye_4 rfl ?_
  refine j_iald 1 6 dX0_layBelowEye_5 rfl rfl (by decide) (by omega) ?_
  refine j_iconst 7 dX0_layBelowEye_6 rfl ?_
  refine j_icmp_ge 32 10 dX0_layBelowEye_7 rfl (by decide) (by omega) (by omega) (fun h_7 => ?_) (fun h_7 => ?_)
  · skip
    exact absurd h_7 (by omega)
  · skip
    refine j_aload_n 0 11 dX0_layBelowEye_10 rfl rfl ?_
    refine j_get 0 2 2 14 in_X0_layBelowEye_X0 dX0_layBelowEye_11 rfl rfl rfl (by decide) rfl rfl ?_
    refine j_aload_n 0 15 dX0_layBelowEye_14 rfl rfl ?_
    refine j_get 0 0 1 18 in_X0_layBelowEye_X0 dX0_layBelowEye_15 rfl rfl rfl (by decide) rfl rfl ?_
    refine j_iconst 19 dX0_layBelowEye_18 rfl ?_
    refine j_iald 1 20 dX0_layBelowEye_19 rfl rfl (by decide) (by omega) ?_
    refine j_iload_n 1 21 dX0_layBelowEye_20 rfl rfl ?_
    refine j_iast 3 22 [_, _, _, _] dX0_layBelowEye_21 rfl rfl (by decide) (by omega) rfl ?_
    refine j_aload_n 0 23 dX0_layBelowEye_22 rfl rfl ?_
    refine j_get 0 0 1 26 in_X0_layBelowEye_X0 dX0_layBelowEye_23 rfl rfl rfl (by decide) rfl rfl ?_
    refine j_iconst 27 dX0_layBelowEye_26 rfl ?_
    refine j_dup2 28 dX0_layBelowEye_27 rfl rfl rfl ?_
    refine j_iald 1 29 dX0_layBelowEye_28 rfl rfl (by decide) (by omega) ?_
    refine j_iconst 30 dX0_layBelowEye_29 rfl ?_
    refine j_iadd 31 dX0_layBelowEye_30 rfl ?_
    refine j_iast 1 32 [_, _, _, _] dX0_layBelowEye_31 rfl rfl (by decide) (by omega) rfl ?_
    exact j_vret dX0_layBelowEye_32 rfl (by rfl)
set_option maxRecDepth 20000 in
theorem in_X0_clearCup_X0 : ∀ x ∈ u_ws RX0 TX0 3, x ∈ wsX0_clearCup := by decide +kernel
set_option maxRecDepth 100000 in
set_option maxHeartbeats 4000000 in
theorem c_X0_clearCup (E : jE) (o a b c : Nat) (x y z : Int → Int) (p : Int) (h0 : 0 ≤ p ∧ p < 12) : jMV E yX0_clearCup wsX0_clearCup rmX0_clearCup [.ref o, .int (jI p)] (wBelt E o a b c x y z) (wBelt E o a b c (jU x p 0) (jU y p (-1)) z) := by
  refine jMV_of (cc := cX0_clearCup) (maxL := 2) (ret := none) [(0, .ref o), (1, .int (jI p))] (by decide) rfl rfl (Nat.le_of_ble_eq_true rfl) (fun C => ?_)
  show jG mX0_clearCup E C (jQv E C (wBelt E o a b c (jU x p 0) (jU y p (-1)) z)) 0 0 0 [(0, .ref o), (1, .int (jI p))] [] (wBelt E o a b c x y z)
  refine j_aload_n 0 1 dX0_clearCup_0 rfl rfl ?_
  refine j_get 0 0 1 4 in_X0_clearCup_X0 dX0_clearCup_1 rfl rfl rfl (by decide) rfl rfl ?_
  refine j_iload_n 1 5 dX0_clearCup_4 rfl rfl ?_
  refine j_iconst 6 dX0_clearCup_5 rfl ?_
  refine j_iast 1 7 [_, _, _, _] dX0_clearCup_6 rfl rfl (by decide) (by omega) rfl ?_
  refine j_aload_n 0 8 dX0_clearCup_7 rfl rfl ?_
  refine j_get 0 1 2 11 in_X0_clearCup_X0 dX0_clearCup_8 rfl rfl rfl (by decide) rfl rfl ?_
  refine j_iload_n 1 12 dX0_clearCup_11 rfl rfl ?_
  refine j_iconst 13 dX0_clearCup_12 rfl ?_
  refine j_iast 2 14 [_, _, _, _] dX0_clearCup_13 rfl rfl (by decide) (by omega) rfl ?_
  exact j_vret dX0_clearCup_14 rfl (by rfl)
set_option maxRecDepth 20000 in
theorem in_X0_weightIn_X0 : ∀ x ∈ u_ws RX0 TX0 3, x ∈ wsX0_weightIn := by decide +kernel
theorem kX0_weightIn_X6_weight : jKs mX0_weightIn 21 yX6_weight wsX6_weight rmX6_weight 1 := ⟨gX0_weightIn_X6_weight, ⟨_, _, _, _, rfl, by decide⟩, by decide +kernel, rfl, rfl, by decide⟩
set_option maxRecDepth 100000 in
set_option maxHeartbeats 4000000 in
theorem c_X0_weightIn (E : jE) (o a b c : Nat) (x y z : Int → Int) (p : Int) (h0 : 0 ≤ p ∧ p < 12) (hx : 0 ≤ x p ∧ x p ≤ 2) (hz : ∀ i, 0 ≤ z i ∧ z i < 2147483648) : jMI E yX0_weightIn wsX0_weightIn rmX0_weightIn [.ref o, .int (jI p)] (wBelt E o a b c x y z) (jSum (fun i => tW (z (2 * p + i))) (x p).toNat) (wBelt E o a b c x y z) := by
  refine jMI_of (cc := cX0_weightIn) (maxL := 4) (ret := (some .int)) [(0, .ref o), (1, .int (jI p))] (by decide) rfl rfl (Nat.le_of_ble_eq_true rfl) (fun C => ?_)
  show jG mX0_weightIn E C (jQi E C (jSum (fun i => tW (z (2 * p + i))) (x p).toNat) (wBelt E o a b c x y z)) 0 0 0 [(0, .ref o), (1, .int (jI p))] [] (wBelt E o a b c x y z)
  refine j_iconst 1 dX0_weightIn_0 rfl ?_
  refine j_istore_n 2 [_, _, _] dX0_weightIn_1 rfl (by decide) rfl ?_
  refine j_iconst 3 dX0_weightIn_2 rfl ?_
  refine j_istore_n 4 [_, _, _, _] dX0_weightIn_3 rfl (by decide) rfl ?_
  have key4 : ∀ (fu i : Nat), (x p).toNat < i + fu → (i : Int) ≤ x p → jG mX0_weightIn E C (jQi E C (jSum (fun i => tW (z (2 * p + i))) (x p).toNat) (wBelt E o a b c x y z)) 0 0 4 [(0, .ref o), (1, .int (jI p)), (2, .int (jI (jSum (fun i => tW (z (2 * p + i))) i))), (3, .int (jI (i : Int)))] [] (wBelt E o a b c x y z) := by
    intro fu
    induction fu with
    | zero => intro i h1 h2; exact absurd h1 (by omega)
    | succ fu ih =>
      intro i h1 h2
      refine j_iload_n 3 5 dX0_weightIn_4 rfl rfl ?_
      refine j_aload_n 0 6 dX0_weightIn_5 rfl rfl ?_
      refine j_get 0 0 1 9 in_X0_weightIn_X0 dX0_weightIn_6 rfl rfl rfl (by decide) rfl rfl ?_
      refine j_iload_n 1 10 dX0_weightIn_9 rfl rfl ?_
      refine j_iald 1 11 dX0_weightIn_10 rfl rfl (by decide) (by omega) ?_
      refine j_icmp_ge 36 14 dX0_weightIn_11 rfl (by decide) (by omega) (by omega) (fun h_11 => ?_) (fun h_11 => ?_)
      · skip
        obtain rfl : i = (x p).toNat := by omega
        refine j_iload_n 2 37 dX0_weightIn_36 rfl rfl ?_
        exact j_iret dX0_weightIn_37 rfl (by rfl) (by rfl)
      · skip
        refine j_iload_n 2 15 dX0_weightIn_14 rfl rfl ?_
        refine j_aload_n 0 16 dX0_weightIn_15 rfl rfl ?_
        refine j_get 0 2 2 19 in_X0_weightIn_X0 dX0_weightIn_16 rfl rfl rfl (by decide) rfl rfl ?_
        refine j_iconst 20 dX0_weightIn_19 rfl ?_
        refine j_iload_n 1 21 dX0_weightIn_20 rfl rfl ?_
        refine j_imul 22 dX0_weightIn_21 rfl ?_
        refine j_iload_n 3 23 dX0_weightIn_22 rfl rfl ?_
        refine j_iadd 24 dX0_weightIn_23 rfl ?_
        refine j_iald 3 25 dX0_weightIn_24 rfl rfl (by decide) (by omega) ?_
        refine j_callSi [] 28 [_, _, _, _] (c_X6_weight E _ (by exact hz _)) rfl kX0_weightIn_X6_weight rfl rfl rfl rfl rfl (Nat.le_of_ble_eq_true rfl) (by decide) dX0_weightIn_25 rfl ?_
        refine j_iadd 29 dX0_weightIn_28 rfl ?_
        refine j_istore_n 30 [_, _, _, _] dX0_weightIn_29 rfl (by decide) rfl ?_
        refine j_iinc 3 33 [_, _, _, _] dX0_weightIn_30 rfl rfl (by decide) rfl ?_
        refine j_goto 4 dX0_weightIn_33 (by decide) ?_
        refine j_perm [2, 3, 1, 0] rfl ?_
        exact ih (i + 1) (by omega) (by omega)
  refine j_perm [2, 3, 1, 0] rfl ?_
  exact key4 ((x p).toNat + 1) 0 (by omega) (by omega)
theorem kX0_move_X0_clearCup : jKv mX0_move 27 yX0_clearCup wsX0_clearCup rmX0_clearCup 1 := ⟨gX0_move_X0_clearCup, ⟨_, _, _, _, rfl, by decide⟩, by decide +kernel, rfl, rfl, by decide⟩
set_option maxRecDepth 20000 in
theorem in_X0_move_X0 : ∀ x ∈ u_ws RX0 TX0 3, x ∈ wsX0_move := by decide +kernel
set_option maxRecDepth 100000 in
set_option maxHeartbeats 4000000 in
theorem c_X0_move (E : jE) (o a b c : Nat) (x y z : Int → Int)  : jMV E yX0_move wsX0_move rmX0_move [.ref o] (wBelt E o a b c x y z) (wBelt E o a b c (bMv x 0) (bMv y (-1)) (bMv2 z)) := by
  refine jMV_of (cc := cX0_move) (maxL := 2) (ret := none) [(0, .ref o)] (by decide) rfl rfl (Nat.le_of_ble_eq_true rfl) (fun C => ?_)
  show jG mX0_move E C (jQv E C (wBelt E o a b c (bMv x 0) (bMv y (-1)) (bMv2 z))) 0 0 0 [(0, .ref o)] [] (wBelt E o a b c x y z)
  refine j_bipush 2 dX0_move_0 rfl (by decide) ?_
  refine j_istore_n 3 [_, _] dX0_move_2 rfl (by decide) rfl ?_
  have key3 : ∀ (fu : Nat) (i : Int), i < fu → 0 ≤ i ∧ i ≤ 11 → jG mX0_move E C (jQv E C (wBelt E o a b c (bMv x 0) (bMv y (-1)) (bMv2 z))) 0 0 3 [(0, .ref o), (1, .int (jI i))] [] (wBelt E o a b c (sh1 x 1 i 11) (sh1 y 1 i 11) z) := by
    intro fu
    induction fu with
    | zero => intro i h1 h2; exact absurd h1 (by omega)
    | succ fu ih =>
      intro i h1 h2
      refine j_iload_n 1 4 dX0_move_3 rfl rfl ?_
      refine j_if_le 41 7 dX0_move_4 rfl (by decide) (by omega) (fun h_4 => ?_) (fun h_4 => ?_)
      · skip
        obtain rfl : i = 0 := by omega
        refine j_bipush 43 dX0_move_41 rfl (by decide) ?_
        refine j_istore_n 44 [_, _] dX0_move_43 rfl (by decide) rfl ?_
        have key44 : ∀ (fu : Nat) (i : Int), i < fu → 1 ≤ i ∧ i ≤ 23 → jG mX0_move E C (jQv E C (wBelt E o a b c (bMv x 0) (bMv y (-1)) (bMv2 z))) 0 0 44 [(0, .ref o), (1, .int (jI i))] [] (wBelt E o a b c (sh1 x 1 0 11) (sh1 y 1 0 11) (sh1 z 2 i 23)) := by
          intro fu
          induction fu with
          | zero => intro i h1 h2; exact absurd h1 (by omega)
          | succ fu ih =>
            intro i h1 h2
            refine j_iload_n 1 45 dX0_move_44 rfl rfl ?_
            refine j_iconst 46 dX0_move_45 rfl ?_
            refine j_icmp_lt 69 49 dX0_move_46 rfl (by decide) (by omega) (by omega) (fun h_46 => ?_) (fun h_46 => ?_)
            · skip
              obtain rfl : i = 1 := by omega
              refine j_aload_n 0 70 dX0_move_69 rfl rfl ?_
              refine j_iconst 71 dX0_move_70 rfl ?_
              refine j_callVv 0 [0, 1, 2, 3] 74 [_, _, _, _] (c_X0_clearCup E _ _ _ _ _ _ _ _ (by omega)) rfl kX0_move_X0_clearCup rfl rfl rfl rfl rfl rfl rfl (Nat.le_of_ble_eq_true rfl) (by decide) dX0_move_71 rfl ?_
              exact j_vret dX0_move_74 rfl (by rw [sh1_bMv, sh1_bMv, sh1_bMv2])
            · skip
              refine j_aload_n 0 50 dX0_move_49 rfl rfl ?_
              refine j_get 0 2 3 53 in_X0_move_X0 dX0_move_50 rfl rfl rfl (by decide) rfl rfl ?_
              refine j_iload_n 1 54 dX0_move_53 rfl rfl ?_
              refine j_aload_n 0 55 dX0_move_54 rfl rfl ?_
              refine j_get 0 2 3 58 in_X0_move_X0 dX0_move_55 rfl rfl rfl (by decide) rfl rfl ?_
              refine j_iload_n 1 59 dX0_move_58 rfl rfl ?_
              refine j_iconst 60 dX0_move_59 rfl ?_
              refine j_isub 61 dX0_move_60 rfl ?_
              refine j_iald 3 62 dX0_move_61 rfl rfl (by decide) (by omega) ?_
              refine j_iast 3 63 [_, _, _, _] dX0_move_62 rfl rfl (by decide) (by omega) rfl ?_
              refine j_iinc 1 66 [_, _] dX0_move_63 rfl rfl (by decide) rfl ?_
              refine j_goto 44 dX0_move_66 (by decide) ?_
              refine j_perm [1, 0] rfl ?_
              rw [sh1_step (by omega) (by omega)]
              exact ih (i - 1) (by omega) (by omega)
        refine j_perm [1, 0] rfl ?_
        refine j_eqw (w' := wBelt E o a b c (sh1 x 1 0 11) (sh1 y 1 0 11) (sh1 z 2 23 23)) (by rw [sh1_start z]) ?_
        exact key44 24 23 (by omega) (by omega)
      · skip
        refine j_aload_n 0 8 dX0_move_7 rfl rfl ?_
        refine j_get 0 0 1 11 in_X0_move_X0 dX0_move_8 rfl rfl rfl (by decide) rfl rfl ?_
        refine j_iload_n 1 12 dX0_move_11 rfl rfl ?_
        refine j_aload_n 0 13 dX0_move_12 rfl rfl ?_
        refine j_get 0 0 1 16 in_X0_move_X0 dX0_move_13 rfl rfl rfl (by decide) rfl rfl ?_
        refine j_iload_n 1 17 dX0_move_16 rfl rfl ?_
        refine j_iconst 18 dX0_move_17 rfl ?_
        refine j_isub 19 dX0_move_18 rfl ?_
        refine j_iald 1 20 dX0_move_19 rfl rfl (by decide) (by omega) ?_
        refine j_iast 1 21 [_, _, _, _] dX0_move_20 rfl rfl (by decide) (by omega) rfl ?_
        refine j_aload_n 0 22 dX0_move_21 rfl rfl ?_
        refine j_get 0 1 2 25 in_X0_move_X0 dX0_move_22 rfl rfl rfl (by decide) rfl rfl ?_
        refine j_iload_n 1 26 dX0_move_25 rfl rfl ?_
        refine j_aload_n 0 27 dX0_move_26 rfl rfl ?_
        refine j_get 0 1 2 30 in_X0_move_X0 dX0_move_27 rfl rfl rfl (by decide) rfl rfl ?_
        refine j_iload_n 1 31 dX0_move_30 rfl rfl ?_
        refine j_iconst 32 dX0_move_31 rfl ?_
        refine j_isub 33 dX0_move_32 rfl ?_
        refine j_iald 2 34 dX0_move_33 rfl rfl (by decide) (by omega) ?_
        refine j_iast 2 35 [_, _, _, _] dX0_move_34 rfl rfl (by decide) (by omega) rfl ?_
        refine j_iinc 1 38 [_, _] dX0_move_35 rfl rfl (by decide) rfl ?_
        refine j_goto 3 dX0_move_38 (by decide) ?_
        refine j_perm [1, 0] rfl ?_
        rw [sh1_step (by omega) (by omega), sh1_step (by omega) (by omega)]
        exact ih (i - 1) (by omega) (by omega)
  refine j_perm [1, 0] rfl ?_
  refine j_eqw (w' := wBelt E o a b c (sh1 x 1 11 11) (sh1 y 1 11 11) z) (by rw [sh1_start, sh1_start]) ?_
  exact key3 12 11 (by omega) (by omega)
set_option maxRecDepth 20000 in
theorem in_X0_apples_X0 : ∀ x ∈ u_ws RX0 TX0 3, x ∈ wsX0_apples := by decide +kernel
set_option maxRecDepth 100000 in
set_option maxHeartbeats 4000000 in
theorem c_X0_apples (E : jE) (o a b c : Nat) (x y z : Int → Int)  : jMI E yX0_apples wsX0_apples rmX0_apples [.ref o] (wBelt E o a b c x y z) (jSum x 12) (wBelt E o a b c x y z) := by
  refine jMI_of (cc := cX0_apples) (maxL := 3) (ret := (some .int)) [(0, .ref o)] (by decide) rfl rfl (Nat.le_of_ble_eq_true rfl) (fun C => ?_)
  show jG mX0_apples E C (jQi E C (jSum x 12) (wBelt E o a b c x y z)) 0 0 0 [(0, .ref o)] [] (wBelt E o a b c x y z)
  refine j_iconst 1 dX0_apples_0 rfl ?_
  refine j_istore_n 2 [_, _] dX0_apples_1 rfl (by decide) rfl ?_
  refine j_iconst 3 dX0_apples_2 rfl ?_
  refine j_istore_n 4 [_, _, _] dX0_apples_3 rfl (by decide) rfl ?_
  have key4 : ∀ (fu i : Nat), 12 < i + fu → i ≤ 12 → jG mX0_apples E C (jQi E C (jSum x 12) (wBelt E o a b c x y z)) 0 0 4 [(0, .ref o), (1, .int (jI (jSum x i))), (2, .int (jI (i : Int)))] [] (wBelt E o a b c x y z) := by
    intro fu
    induction fu with
    | zero => intro i h1 h2; exact absurd h1 (by omega)
    | succ fu ih =>
      intro i h1 h2
      refine j_iload_n 2 5 dX0_apples_4 rfl rfl ?_
      refine j_bipush 7 dX0_apples_5 rfl (by decide) ?_
      refine j_icmp_ge 25 10 dX0_apples_7 rfl (by decide) (by omega) (by omega) (fun h_7 => ?_) (fun h_7 => ?_)
      · skip
        obtain rfl : i = 12 := by omega
        refine j_iload_n 1 26 dX0_apples_25 rfl rfl ?_
        exact j_iret dX0_apples_26 rfl (by rfl) (by rfl)
      · skip
        refine j_iload_n 1 11 dX0_apples_10 rfl rfl ?_
        refine j_aload_n 0 12 dX0_apples_11 rfl rfl ?_
        refine j_get 0 0 1 15 in_X0_apples_X0 dX0_apples_12 rfl rfl rfl (by decide) rfl rfl ?_
        refine j_iload_n 2 16 dX0_apples_15 rfl rfl ?_
        refine j_iald 1 17 dX0_apples_16 rfl rfl (by decide) (by omega) ?_
        refine j_iadd 18 dX0_apples_17 rfl ?_
        refine j_istore_n 19 [_, _, _] dX0_apples_18 rfl (by decide) rfl ?_
        refine j_iinc 2 22 [_, _, _] dX0_apples_19 rfl rfl (by decide) rfl ?_
        refine j_goto 4 dX0_apples_22 (by decide) ?_
        refine j_perm [2, 1, 0] rfl ?_
        exact ih (i + 1) (by omega) (by omega)
  refine j_perm [2, 1, 0] rfl ?_
  exact key4 13 0 (by omega) (by omega)
set_option maxRecDepth 20000 in
theorem in_X0_doubles_X0 : ∀ x ∈ u_ws RX0 TX0 3, x ∈ wsX0_doubles := by decide +kernel
set_option maxRecDepth 100000 in
set_option maxHeartbeats 4000000 in
theorem c_X0_doubles (E : jE) (o a b c : Nat) (x y z : Int → Int) (hx : ∀ i, 0 ≤ x i ∧ x i ≤ 2) : jMI E yX0_doubles wsX0_doubles rmX0_doubles [.ref o] (wBelt E o a b c x y z) (jSum (fun i => if x i = 2 then 1 else 0) 12) (wBelt E o a b c x y z) := by
  refine jMI_of (cc := cX0_doubles) (maxL := 3) (ret := (some .int)) [(0, .ref o)] (by decide) rfl rfl (Nat.le_of_ble_eq_true rfl) (fun C => ?_)
  show jG mX0_doubles E C (jQi E C (jSum (fun i => if x i = 2 then 1 else 0) 12) (wBelt E o a b c x y z)) 0 0 0 [(0, .ref o)] [] (wBelt E o a b c x y z)
  refine j_iconst 1 dX0_doubles_0 rfl ?_
  refine j_istore_n 2 [_, _] dX0_doubles_1 rfl (by decide) rfl ?_
  refine j_iconst 3 dX0_doubles_2 rfl ?_
  refine j_istore_n 4 [_, _, _] dX0_doubles_3 rfl (by decide) rfl ?_
  have key4 : ∀ (fu i : Nat), 12 < i + fu → i ≤ 12 → jG mX0_doubles E C (jQi E C (jSum (fun i => if x i = 2 then 1 else 0) 12) (wBelt E o a b c x y z)) 0 0 4 [(0, .ref o), (1, .int (jI (jSum (fun i => if x i = 2 then 1 else 0) i))), (2, .int (jI (i : Int)))] [] (wBelt E o a b c x y z) := by
    intro fu
    induction fu with
    | zero => intro i h1 h2; exact absurd h1 (by omega)
    | succ fu ih =>
      intro i h1 h2
      refine j_iload_n 2 5 dX0_doubles_4 rfl rfl ?_
      refine j_bipush 7 dX0_doubles_5 rfl (by decide) ?_
      refine j_icmp_ge 29 10 dX0_doubles_7 rfl (by decide) (by omega) (by omega) (fun h_7 => ?_) (fun h_7 => ?_)
      · skip
        obtain rfl : i = 12 := by omega
        refine j_iload_n 1 30 dX0_doubles_29 rfl rfl ?_
        exact j_iret dX0_doubles_30 rfl (by rfl) (by rfl)
      · skip
        refine j_aload_n 0 11 dX0_doubles_10 rfl rfl ?_
        refine j_get 0 0 1 14 in_X0_doubles_X0 dX0_doubles_11 rfl rfl rfl (by decide) rfl rfl ?_
        refine j_iload_n 2 15 dX0_doubles_14 rfl rfl ?_
        refine j_iald 1 16 dX0_doubles_15 rfl rfl (by decide) (by omega) ?_
        refine j_iconst 17 dX0_doubles_16 rfl ?_
        have hxi := hx i
        refine j_icmp_ne 23 20 dX0_doubles_17 rfl (by decide) (by omega) (by omega) (fun h_17 => ?_) (fun h_17 => ?_)
        · skip
          refine j_iinc 2 26 [_, _, _] dX0_doubles_23 rfl rfl (by decide) rfl ?_
          refine j_goto 4 dX0_doubles_26 (by decide) ?_
          refine j_perm [1, 2, 0] rfl ?_
          have e : jSum (fun i => if x i = 2 then 1 else 0) (i + 1) = jSum (fun i => if x i = 2 then 1 else 0) i + (if x i = 2 then 1 else 0) := rfl
          have g := ih (i + 1) (by omega) (by omega)
          rw [e] at g
          first
            | (rw [if_pos (by omega)] at g; exact g)
            | (rw [if_neg (by omega), Int.add_zero] at g; exact g)
        · skip
          refine j_iinc 1 23 [_, _, _] dX0_doubles_20 rfl rfl (by decide) rfl ?_
          refine j_iinc 2 26 [_, _, _] dX0_doubles_23 rfl rfl (by decide) rfl ?_
          refine j_goto 4 dX0_doubles_26 (by decide) ?_
          refine j_perm [2, 1, 0] rfl ?_
          have e : jSum (fun i => if x i = 2 then 1 else 0) (i + 1) = jSum (fun i => if x i = 2 then 1 else 0) i + (if x i = 2 then 1 else 0) := rfl
          have g := ih (i + 1) (by omega) (by omega)
          rw [e] at g
          first
            | (rw [if_pos (by omega)] at g; exact g)
            | (rw [if_neg (by omega), Int.add_zero] at g; exact g)
  refine j_perm [2, 1, 0] rfl ?_
  exact key4 13 0 (by omega) (by omega)
set_option maxRecDepth 20000 in
theorem in_X0_copyFrom_X0 : ∀ x ∈ u_ws RX0 TX0 3, x ∈ wsX0_copyFrom := by decide +kernel
set_option maxRecDepth 100000 in
set_option maxHeartbeats 4000000 in
theorem c_X0_copyFrom (E : jE) (o a b c : Nat) (x y z : Int → Int) (o2 a2 b2 c2 : Nat) (x2 y2 z2 : Int → Int)  : jMV E yX0_copyFrom wsX0_copyFrom rmX0_copyFrom [.ref o, .ref o2] (wBelt E o a b c x y z ++ wBelt E o2 a2 b2 c2 x2 y2 z2) (wBelt E o a b c x2 y2 z2 ++ wBelt E o2 a2 b2 c2 x2 y2 z2) := by
  refine jMV_of (cc := cX0_copyFrom) (maxL := 2) (ret := none) [(0, .ref o), (1, .ref o2)] (by decide) rfl rfl (Nat.le_of_ble_eq_true rfl) (fun C => ?_)
  show jG mX0_copyFrom E C (jQv E C (wBelt E o a b c x2 y2 z2 ++ wBelt E o2 a2 b2 c2 x2 y2 z2)) 0 0 0 [(0, .ref o), (1, .ref o2)] [] (wBelt E o a b c x y z ++ wBelt E o2 a2 b2 c2 x2 y2 z2)
  refine j_aload_n 1 1 dX0_copyFrom_0 rfl rfl ?_
  refine j_get 4 0 1 4 in_X0_copyFrom_X0 dX0_copyFrom_1 rfl rfl rfl (by decide) rfl rfl ?_
  refine j_iconst 5 dX0_copyFrom_4 rfl ?_
  refine j_aload_n 0 6 dX0_copyFrom_5 rfl rfl ?_
  refine j_get 0 0 1 9 in_X0_copyFrom_X0 dX0_copyFrom_6 rfl rfl rfl (by decide) rfl rfl ?_
  refine j_iconst 10 dX0_copyFrom_9 rfl ?_
  refine j_bipush 12 dX0_copyFrom_10 rfl (by decide) ?_
  refine j_copyi 5 1 15 [_, _, _, _, _, _, _, _] (List.mem_of_getElem? (i := 2) rfl) (List.mem_of_getElem? (i := 3) rfl) (List.mem_of_getElem? (i := 4) rfl) (List.mem_of_getElem? (i := 5) rfl) (by decide) dX0_copyFrom_12 rfl rfl rfl (by decide) (by omega) rfl ?_
  refine j_aload_n 1 16 dX0_copyFrom_15 rfl rfl ?_
  refine j_get 4 1 6 19 in_X0_copyFrom_X0 dX0_copyFrom_16 rfl rfl rfl (by decide) rfl rfl ?_
  refine j_iconst 20 dX0_copyFrom_19 rfl ?_
  refine j_aload_n 0 21 dX0_copyFrom_20 rfl rfl ?_
  refine j_get 0 1 6 24 in_X0_copyFrom_X0 dX0_copyFrom_21 rfl rfl rfl (by decide) rfl rfl ?_
  refine j_iconst 25 dX0_copyFrom_24 rfl ?_
  refine j_bipush 27 dX0_copyFrom_25 rfl (by decide) ?_
  refine j_copyi 6 2 30 [_, _, _, _, _, _, _, _] (List.mem_of_getElem? (i := 2) rfl) (List.mem_of_getElem? (i := 3) rfl) (List.mem_of_getElem? (i := 4) rfl) (List.mem_of_getElem? (i := 5) rfl) (by decide) dX0_copyFrom_27 rfl rfl rfl (by decide) (by omega) rfl ?_
  refine j_aload_n 1 31 dX0_copyFrom_30 rfl rfl ?_
  refine j_get 4 2 7 34 in_X0_copyFrom_X0 dX0_copyFrom_31 rfl rfl rfl (by decide) rfl rfl ?_
  refine j_iconst 35 dX0_copyFrom_34 rfl ?_
  refine j_aload_n 0 36 dX0_copyFrom_35 rfl rfl ?_
  refine j_get 0 2 7 39 in_X0_copyFrom_X0 dX0_copyFrom_36 rfl rfl rfl (by decide) rfl rfl ?_
  refine j_iconst 40 dX0_copyFrom_39 rfl ?_
  refine j_bipush 42 dX0_copyFrom_40 rfl (by decide) ?_
  refine j_copyi 7 3 45 [_, _, _, _, _, _, _, _] (List.mem_of_getElem? (i := 2) rfl) (List.mem_of_getElem? (i := 3) rfl) (List.mem_of_getElem? (i := 4) rfl) (List.mem_of_getElem? (i := 5) rfl) (by decide) dX0_copyFrom_42 rfl rfl rfl (by decide) (by omega) rfl ?_
  refine j_eqv (w' := wBelt E o a b c x2 y2 z2 ++ wBelt E o2 a2 b2 c2 x2 y2 z2) (jEqR (jEqA (fun i hi => jCp_full (by omega)) (jEqA (fun i hi => jCp_full (by omega)) (jEqA (fun i hi => jCp_full (by omega)) (jEqR (jEqR (jEqR (jEqR jEq0)))))))) ?_
  exact j_vret dX0_copyFrom_45 rfl (by rfl)
set_option maxRecDepth 20000 in
theorem in_X1_has_X1 : ∀ x ∈ u_ws RX1 TX1 3, x ∈ wsX1_has := by decide +kernel
set_option maxRecDepth 100000 in
set_option maxHeartbeats 4000000 in
theorem c_X1_has (E : jE) (o a b : Nat) (x y : Int → Int) (m : Int) (r : Int) (hm : 0 ≤ m ∧ m ≤ 8) (hr : -2147483648 ≤ r ∧ r < 2147483648) : jMI E yX1_has wsX1_has rmX1_has [.ref o, .int (jI r)] (wBook E o a b x y m) (if 0 ≤ r ∧ r < m then 1 else 0) (wBook E o a b x y m) := by
  refine jMI_of (cc := cX1_has) (maxL := 2) (ret := (some .boolean)) [(0, .ref o), (1, .int (jI r))] (by decide) rfl rfl (Nat.le_of_ble_eq_true rfl) (fun C => ?_)
  show jG mX1_has E C (jQi E C (if 0 ≤ r ∧ r < m then 1 else 0) (wBook E o a b x y m)) 0 0 0 [(0, .ref o), (1, .int (jI r))] [] (wBook E o a b x y m)
  refine j_iload_n 1 1 dX1_has_0 rfl rfl ?_
  refine j_if_lt 16 4 dX1_has_1 rfl (by decide) (by omega) (fun h_1 => ?_) (fun h_1 => ?_)
  · skip
    refine j_iconst 17 dX1_has_16 rfl ?_
    exact j_zret dX1_has_17 rfl (by split <;> omega) (by decide) (by rfl)
  · skip
    refine j_iload_n 1 5 dX1_has_4 rfl rfl ?_
    refine j_aload_n 0 6 dX1_has_5 rfl rfl ?_
    refine j_get 0 2 1 9 in_X1_has_X1 dX1_has_6 rfl rfl rfl (by decide) rfl rfl ?_
    refine j_icmp_ge 16 12 dX1_has_9 rfl (by decide) (by omega) (by omega) (fun h_9 => ?_) (fun h_9 => ?_)
    · skip
      refine j_iconst 17 dX1_has_16 rfl ?_
      exact j_zret dX1_has_17 rfl (by split <;> omega) (by decide) (by rfl)
    · skip
      refine j_iconst 13 dX1_has_12 rfl ?_
      refine j_goto 17 dX1_has_13 (by decide) ?_
      exact j_zret dX1_has_17 rfl (by split <;> omega) (by decide) (by rfl)
set_option maxRecDepth 20000 in
theorem in_X1_insert_X1 : ∀ x ∈ u_ws RX1 TX1 3, x ∈ wsX1_insert := by decide +kernel
set_option maxRecDepth 100000 in
set_option maxHeartbeats 4000000 in
theorem c_X1_insert (E : jE) (o a b : Nat) (x y : Int → Int) (m : Int) (p t l : Int) (hm : 0 ≤ m ∧ m < 8) (hp : 0 ≤ p ∧ p ≤ m) : jMV E yX1_insert wsX1_insert rmX1_insert [.ref o, .int (jI p), .int (jI t), .int (jI l)] (wBook E o a b x y m) (wBook E o a b (rIns x p m t) (rIns y p m l) (m + 1)) := by
  refine jMV_of (cc := cX1_insert) (maxL := 5) (ret := none) [(0, .ref o), (1, .int (jI p)), (2, .int (jI t)), (3, .int (jI l))] (by decide) rfl rfl (Nat.le_of_ble_eq_true rfl) (fun C => ?_)
  show jG mX1_insert E C (jQv E C (wBook E o a b (rIns x p m t) (rIns y p m l) (m + 1))) 0 0 0 [(0, .ref o), (1, .int (jI p)), (2, .int (jI t)), (3, .int (jI l))] [] (wBook E o a b x y m)
  refine j_iload_n 1 1 dX1_insert_0 rfl rfl ?_
  refine j_if_lt 21 4 dX1_insert_1 rfl (by decide) (by omega) (fun h_1 => ?_) (fun h_1 => ?_)
  · skip
    exact absurd h_1 (by omega)
  · skip
    refine j_iload_n 1 5 dX1_insert_4 rfl rfl ?_
    refine j_aload_n 0 6 dX1_insert_5 rfl rfl ?_
    refine j_get 0 2 1 9 in_X1_insert_X1 dX1_insert_6 rfl rfl rfl (by decide) rfl rfl ?_
    refine j_icmp_gt 21 12 dX1_insert_9 rfl (by decide) (by omega) (by omega) (fun h_9 => ?_) (fun h_9 => ?_)
    · skip
      exact absurd h_9 (by omega)
    · skip
      refine j_aload_n 0 13 dX1_insert_12 rfl rfl ?_
      refine j_get 0 2 1 16 in_X1_insert_X1 dX1_insert_13 rfl rfl rfl (by decide) rfl rfl ?_
      refine j_bipush 18 dX1_insert_16 rfl (by decide) ?_
      refine j_icmp_lt 22 21 dX1_insert_18 rfl (by decide) (by omega) (by omega) (fun h_18 => ?_) (fun h_18 => ?_)
      · skip
        refine j_aload_n 0 23 dX1_insert_22 rfl rfl ?_
        refine j_get 0 2 1 26 in_X1_insert_X1 dX1_insert_23 rfl rfl rfl (by decide) rfl rfl ?_
        refine j_istore 28 [_, _, _, _, _] dX1_insert_26 rfl (by decide) rfl ?_
        have key28 : ∀ (fu : Nat) (i : Int), i < p + fu → p ≤ i ∧ i ≤ m → jG mX1_insert E C (jQv E C (wBook E o a b (rIns x p m t) (rIns y p m l) (m + 1))) 0 0 28 [(0, .ref o), (1, .int (jI p)), (2, .int (jI t)), (3, .int (jI l)), (4, .int (jI i))] [] (wBook E o a b (sh1 x 1 i m) (sh1 y 1 i m) m) := by
          intro fu
          induction fu with
          | zero => intro i h1 h2; exact absurd h1 (by omega)
          | succ fu ih =>
            intro i h1 h2
            refine j_iload 4 30 dX1_insert_28 rfl rfl ?_
            refine j_iload_n 1 31 dX1_insert_30 rfl rfl ?_
            refine j_icmp_le 72 34 dX1_insert_31 rfl (by decide) (by omega) (by omega) (fun h_31 => ?_) (fun h_31 => ?_)
            · skip
              obtain rfl : i = p := by omega
              refine j_aload_n 0 73 dX1_insert_72 rfl rfl ?_
              refine j_get 0 0 2 76 in_X1_insert_X1 dX1_insert_73 rfl rfl rfl (by decide) rfl rfl ?_
              refine j_iload_n 1 77 dX1_insert_76 rfl rfl ?_
              refine j_iload_n 2 78 dX1_insert_77 rfl rfl ?_
              refine j_iast 1 79 [_, _, _] dX1_insert_78 rfl rfl (by decide) (by omega) rfl ?_
              refine j_aload_n 0 80 dX1_insert_79 rfl rfl ?_
              refine j_get 0 1 3 83 in_X1_insert_X1 dX1_insert_80 rfl rfl rfl (by decide) rfl rfl ?_
              refine j_iload_n 1 84 dX1_insert_83 rfl rfl ?_
              refine j_iload_n 3 85 dX1_insert_84 rfl rfl ?_
              refine j_iast 2 86 [_, _, _] dX1_insert_85 rfl rfl (by decide) (by omega) rfl ?_
              refine j_aload_n 0 87 dX1_insert_86 rfl rfl ?_
              refine j_dup 88 dX1_insert_87 rfl rfl ?_
              refine j_get 0 2 1 91 in_X1_insert_X1 dX1_insert_88 rfl rfl rfl (by decide) rfl rfl ?_
              refine j_iconst 92 dX1_insert_91 rfl ?_
              refine j_iadd 93 dX1_insert_92 rfl ?_
              refine j_put 0 2 1 96 [(_, .inr (_, [_, _, _])), _, _] tyX1 tyX1_ok nmX1 in_X1_insert_X1 dX1_insert_93 rfl rfl rfl (by decide) rfl rfl rfl rfl rfl (Nat.le_of_ble_eq_true rfl) rfl ?_
              exact j_vret dX1_insert_96 rfl (by rw [sh1_rIns, sh1_rIns])
            · skip
              refine j_aload_n 0 35 dX1_insert_34 rfl rfl ?_
              refine j_get 0 0 2 38 in_X1_insert_X1 dX1_insert_35 rfl rfl rfl (by decide) rfl rfl ?_
              refine j_iload 4 40 dX1_insert_38 rfl rfl ?_
              refine j_aload_n 0 41 dX1_insert_40 rfl rfl ?_
              refine j_get 0 0 2 44 in_X1_insert_X1 dX1_insert_41 rfl rfl rfl (by decide) rfl rfl ?_
              refine j_iload 4 46 dX1_insert_44 rfl rfl ?_
              refine j_iconst 47 dX1_insert_46 rfl ?_
              refine j_isub 48 dX1_insert_47 rfl ?_
              refine j_iald 1 49 dX1_insert_48 rfl rfl (by decide) (by omega) ?_
              refine j_iast 1 50 [_, _, _] dX1_insert_49 rfl rfl (by decide) (by omega) rfl ?_
              refine j_aload_n 0 51 dX1_insert_50 rfl rfl ?_
              refine j_get 0 1 3 54 in_X1_insert_X1 dX1_insert_51 rfl rfl rfl (by decide) rfl rfl ?_
              refine j_iload 4 56 dX1_insert_54 rfl rfl ?_
              refine j_aload_n 0 57 dX1_insert_56 rfl rfl ?_
              refine j_get 0 1 3 60 in_X1_insert_X1 dX1_insert_57 rfl rfl rfl (by decide) rfl rfl ?_
              refine j_iload 4 62 dX1_insert_60 rfl rfl ?_
              refine j_iconst 63 dX1_insert_62 rfl ?_
              refine j_isub 64 dX1_insert_63 rfl ?_
              refine j_iald 2 65 dX1_insert_64 rfl rfl (by decide) (by omega) ?_
              refine j_iast 2 66 [_, _, _] dX1_insert_65 rfl rfl (by decide) (by omega) rfl ?_
              refine j_iinc 4 69 [_, _, _, _, _] dX1_insert_66 rfl rfl (by decide) rfl ?_
              refine j_goto 28 dX1_insert_69 (by decide) ?_
              refine j_perm [1, 2, 3, 4, 0] rfl ?_
              rw [sh1_step (by omega) (by omega), sh1_step (by omega) (by omega)]
              exact ih (i - 1) (by omega) (by omega)
        refine j_perm [1, 2, 3, 4, 0] rfl ?_
        refine j_eqw (w' := wBook E o a b (sh1 x 1 m m) (sh1 y 1 m m) m) (by rw [sh1_start, sh1_start]) ?_
        exact key28 ((m - p).toNat + 1) m (by omega) (by omega)
      · skip
        exact absurd h_18 (by omega)
theorem kX1_takeOut_X1_has : jKv mX1_takeOut 22 yX1_has wsX1_has rmX1_has 1 := ⟨gX1_takeOut_X1_has, ⟨_, _, _, _, rfl, by decide⟩, by decide +kernel, rfl, rfl, by decide⟩
set_option maxRecDepth 20000 in
theorem in_X1_takeOut_X1 : ∀ x ∈ u_ws RX1 TX1 3, x ∈ wsX1_takeOut := by decide +kernel
set_option maxRecDepth 100000 in
set_option maxHeartbeats 4000000 in
theorem c_X1_takeOut (E : jE) (o a b : Nat) (x y : Int → Int) (m : Int) (r : Int) (hm : 0 ≤ m ∧ m ≤ 8) (hr : 0 ≤ r ∧ r < m) : jMV E yX1_takeOut wsX1_takeOut rmX1_takeOut [.ref o, .int (jI r)] (wBook E o a b x y m) (wBook E o a b (rOut x r m) (rOut y r m) (m - 1)) := by
  refine jMV_of (cc := cX1_takeOut) (maxL := 3) (ret := none) [(0, .ref o), (1, .int (jI r))] (by decide) rfl rfl (Nat.le_of_ble_eq_true rfl) (fun C => ?_)
  show jG mX1_takeOut E C (jQv E C (wBook E o a b (rOut x r m) (rOut y r m) (m - 1))) 0 0 0 [(0, .ref o), (1, .int (jI r))] [] (wBook E o a b x y m)
  refine j_aload_n 0 1 dX1_takeOut_0 rfl rfl ?_
  refine j_iload_n 1 2 dX1_takeOut_1 rfl rfl ?_
  refine j_callVi 0 [0, 1, 2] 5 [_, _, _] (c_X1_has E _ _ _ _ _ _ _ (by omega) (by omega)) rfl kX1_takeOut_X1_has rfl rfl rfl rfl rfl rfl rfl (Nat.le_of_ble_eq_true rfl) (by decide) dX1_takeOut_2 rfl ?_
  rw [if_pos (by omega)]
  refine j_if_ne 9 8 dX1_takeOut_5 rfl (by decide) (by omega) (fun h_5 => ?_) (fun h_5 => ?_)
  · skip
    refine j_iload_n 1 10 dX1_takeOut_9 rfl rfl ?_
    refine j_istore_n 11 [_, _, _] dX1_takeOut_10 rfl (by decide) rfl ?_
    have key11 : ∀ (fu : Nat) (i : Int), m < i + fu → r ≤ i ∧ (i < m) → jG mX1_takeOut E C (jQv E C (wBook E o a b (rOut x r m) (rOut y r m) (m - 1))) 0 0 11 [(0, .ref o), (1, .int (jI r)), (2, .int (jI i))] [] (wBook E o a b (shU x r i) (shU y r i) m) := by
      intro fu
      induction fu with
      | zero => intro i h1 h2; exact absurd h1 (by omega)
      | succ fu ih =>
        intro i h1 h2
        refine j_iload_n 2 12 dX1_takeOut_11 rfl rfl ?_
        refine j_iconst 13 dX1_takeOut_12 rfl ?_
        refine j_iadd 14 dX1_takeOut_13 rfl ?_
        refine j_aload_n 0 15 dX1_takeOut_14 rfl rfl ?_
        refine j_get 0 2 1 18 in_X1_takeOut_X1 dX1_takeOut_15 rfl rfl rfl (by decide) rfl rfl ?_
        refine j_icmp_ge 55 21 dX1_takeOut_18 rfl (by decide) (by omega) (by omega) (fun h_18 => ?_) (fun h_18 => ?_)
        · skip
          obtain rfl : i = m - 1 := by omega
          refine j_aload_n 0 56 dX1_takeOut_55 rfl rfl ?_
          refine j_dup 57 dX1_takeOut_56 rfl rfl ?_
          refine j_get 0 2 1 60 in_X1_takeOut_X1 dX1_takeOut_57 rfl rfl rfl (by decide) rfl rfl ?_
          refine j_iconst 61 dX1_takeOut_60 rfl ?_
          refine j_isub 62 dX1_takeOut_61 rfl ?_
          refine j_put 0 2 1 65 [(_, .inr (_, [_, _, _])), _, _] tyX1 tyX1_ok nmX1 in_X1_takeOut_X1 dX1_takeOut_62 rfl rfl rfl (by decide) rfl rfl rfl rfl rfl (Nat.le_of_ble_eq_true rfl) rfl ?_
          exact j_vret dX1_takeOut_65 rfl (by rw [shU_rOut, shU_rOut])
        · skip
          refine j_aload_n 0 22 dX1_takeOut_21 rfl rfl ?_
          refine j_get 0 0 2 25 in_X1_takeOut_X1 dX1_takeOut_22 rfl rfl rfl (by decide) rfl rfl ?_
          refine j_iload_n 2 26 dX1_takeOut_25 rfl rfl ?_
          refine j_aload_n 0 27 dX1_takeOut_26 rfl rfl ?_
          refine j_get 0 0 2 30 in_X1_takeOut_X1 dX1_takeOut_27 rfl rfl rfl (by decide) rfl rfl ?_
          refine j_iload_n 2 31 dX1_takeOut_30 rfl rfl ?_
          refine j_iconst 32 dX1_takeOut_31 rfl ?_
          refine j_iadd 33 dX1_takeOut_32 rfl ?_
          refine j_iald 1 34 dX1_takeOut_33 rfl rfl (by decide) (by omega) ?_
          refine j_iast 1 35 [_, _, _] dX1_takeOut_34 rfl rfl (by decide) (by omega) rfl ?_
          refine j_aload_n 0 36 dX1_takeOut_35 rfl rfl ?_
          refine j_get 0 1 3 39 in_X1_takeOut_X1 dX1_takeOut_36 rfl rfl rfl (by decide) rfl rfl ?_
          refine j_iload_n 2 40 dX1_takeOut_39 rfl rfl ?_
          refine j_aload_n 0 41 dX1_takeOut_40 rfl rfl ?_
          refine j_get 0 1 3 44 in_X1_takeOut_X1 dX1_takeOut_41 rfl rfl rfl (by decide) rfl rfl ?_
          refine j_iload_n 2 45 dX1_takeOut_44 rfl rfl ?_
          refine j_iconst 46 dX1_takeOut_45 rfl ?_
          refine j_iadd 47 dX1_takeOut_46 rfl ?_
          refine j_iald 2 48 dX1_takeOut_47 rfl rfl (by decide) (by omega) ?_
          refine j_iast 2 49 [_, _, _] dX1_takeOut_48 rfl rfl (by decide) (by omega) rfl ?_
          refine j_iinc 2 52 [_, _, _] dX1_takeOut_49 rfl rfl (by decide) rfl ?_
          refine j_goto 11 dX1_takeOut_52 (by decide) ?_
          refine j_perm [1, 2, 0] rfl ?_
          rw [shU_step (by omega), shU_step (by omega)]
          exact ih (i + 1) (by omega) (by omega)
    refine j_perm [1, 2, 0] rfl ?_
    refine j_eqw (w' := wBook E o a b (shU x r r) (shU y r r) m) (by rw [shU_start, shU_start]) ?_
    exact key11 ((m - r).toNat + 1) r (by omega) (by omega)
  · skip
    exact absurd h_5 (by omega)
set_option maxRecDepth 20000 in
theorem in_X1_laneFromFirst_X1 : ∀ x ∈ u_ws RX1 TX1 3, x ∈ wsX1_laneFromFirst := by decide +kernel
theorem kX1_laneFromFirst_X6_shortOf : jKs mX1_laneFromFirst 26 yX6_shortOf wsX6_shortOf rmX6_shortOf 2 := ⟨gX1_laneFromFirst_X6_shortOf, ⟨_, _, _, _, rfl, by decide⟩, by decide +kernel, rfl, rfl, by decide⟩
set_option maxRecDepth 100000 in
set_option maxHeartbeats 4000000 in
theorem c_X1_laneFromFirst (E : jE) (o a b : Nat) (x y : Int → Int) (m : Int) (t : Int) (hm : 0 ≤ m ∧ m ≤ 8) (hx : ∀ i, 0 ≤ x i ∧ x i < 2147483648) (ht : 0 ≤ t ∧ t < 2147483648) : jMI E yX1_laneFromFirst wsX1_laneFromFirst rmX1_laneFromFirst [.ref o, .int (jI t)] (wBook E o a b x y m) (lnF x y t m.toNat 0) (wBook E o a b x y m) := by
  refine jMI_of (cc := cX1_laneFromFirst) (maxL := 3) (ret := (some .int)) [(0, .ref o), (1, .int (jI t))] (by decide) rfl rfl (Nat.le_of_ble_eq_true rfl) (fun C => ?_)
  show jG mX1_laneFromFirst E C (jQi E C (lnF x y t m.toNat 0) (wBook E o a b x y m)) 0 0 0 [(0, .ref o), (1, .int (jI t))] [] (wBook E o a b x y m)
  refine j_iconst 1 dX1_laneFromFirst_0 rfl ?_
  refine j_istore_n 2 [_, _, _] dX1_laneFromFirst_1 rfl (by decide) rfl ?_
  have key2 : ∀ (fu : Nat) (i : Int), m < i + fu → 0 ≤ i ∧ i ≤ m → lnF x y t m.toNat 0 = lnF x y t (m - i).toNat i → jG mX1_laneFromFirst E C (jQi E C (lnF x y t m.toNat 0) (wBook E o a b x y m)) 0 0 2 [(0, .ref o), (1, .int (jI t)), (2, .int (jI i))] [] (wBook E o a b x y m) := by
    intro fu
    induction fu with
    | zero => intro i h1 h2 he; exact absurd h1 (by omega)
    | succ fu ih =>
      intro i h1 h2 he
      refine j_iload_n 2 3 dX1_laneFromFirst_2 rfl rfl ?_
      refine j_aload_n 0 4 dX1_laneFromFirst_3 rfl rfl ?_
      refine j_get 0 2 1 7 in_X1_laneFromFirst_X1 dX1_laneFromFirst_4 rfl rfl rfl (by decide) rfl rfl ?_
      refine j_icmp_ge 36 10 dX1_laneFromFirst_7 rfl (by decide) (by omega) (by omega) (fun h_7 => ?_) (fun h_7 => ?_)
      · skip
        obtain rfl : i = m := by omega
        rw [Int.sub_self] at he
        change _ = (4 : Int) at he
        refine j_iconst 37 dX1_laneFromFirst_36 rfl ?_
        exact j_iret dX1_laneFromFirst_37 rfl (by rw [he]) (by rfl)
      · skip
        rw [show (m - i).toNat = (m - (i + 1)).toNat + 1 by omega, lnF] at he
        refine j_aload_n 0 11 dX1_laneFromFirst_10 rfl rfl ?_
        refine j_get 0 0 2 14 in_X1_laneFromFirst_X1 dX1_laneFromFirst_11 rfl rfl rfl (by decide) rfl rfl ?_
        refine j_iload_n 2 15 dX1_laneFromFirst_14 rfl rfl ?_
        refine j_iald 1 16 dX1_laneFromFirst_15 rfl rfl (by decide) (by omega) ?_
        refine j_iload_n 1 17 dX1_laneFromFirst_16 rfl rfl ?_
        refine j_callSi [] 20 [_, _, _] (c_X6_shortOf E _ _ (by exact hx _) (by omega)) rfl kX1_laneFromFirst_X6_shortOf rfl rfl rfl rfl rfl (Nat.le_of_ble_eq_true rfl) (by decide) dX1_laneFromFirst_17 rfl ?_
        have hs := tShort_rng (x i) t
        refine j_if_ne 30 23 dX1_laneFromFirst_20 rfl (by decide) (by omega) (fun h_20 => ?_) (fun h_20 => ?_)
        · skip
          refine j_iinc 2 33 [_, _, _] dX1_laneFromFirst_30 rfl rfl (by decide) rfl ?_
          refine j_goto 2 dX1_laneFromFirst_33 (by decide) ?_
          refine j_perm [1, 2, 0] rfl ?_
          rw [if_neg h_20] at he
          exact ih (i + 1) (by omega) (by omega) he
        · skip
          rw [if_pos h_20] at he
          refine j_aload_n 0 24 dX1_laneFromFirst_23 rfl rfl ?_
          refine j_get 0 1 3 27 in_X1_laneFromFirst_X1 dX1_laneFromFirst_24 rfl rfl rfl (by decide) rfl rfl ?_
          refine j_iload_n 2 28 dX1_laneFromFirst_27 rfl rfl ?_
          refine j_iald 2 29 dX1_laneFromFirst_28 rfl rfl (by decide) (by omega) ?_
          exact j_iret dX1_laneFromFirst_29 rfl (by rw [he]) (by rfl)
  refine j_perm [1, 2, 0] rfl ?_
  exact key2 (m.toNat + 1) 0 (by omega) (by omega) (by rw [Int.sub_zero])
set_option maxRecDepth 20000 in
theorem in_X1_laneFromLast_X1 : ∀ x ∈ u_ws RX1 TX1 3, x ∈ wsX1_laneFromLast := by decide +kernel
theorem kX1_laneFromLast_X6_shortOf : jKs mX1_laneFromLast 26 yX6_shortOf wsX6_shortOf rmX6_shortOf 2 := ⟨gX1_laneFromLast_X6_shortOf, ⟨_, _, _, _, rfl, by decide⟩, by decide +kernel, rfl, rfl, by decide⟩
set_option maxRecDepth 100000 in
set_option maxHeartbeats 4000000 in
theorem c_X1_laneFromLast (E : jE) (o a b : Nat) (x y : Int → Int) (m : Int) (t : Int) (hm : 0 ≤ m ∧ m ≤ 8) (hx : ∀ i, 0 ≤ x i ∧ x i < 2147483648) (ht : 0 ≤ t ∧ t < 2147483648) : jMI E yX1_laneFromLast wsX1_laneFromLast rmX1_laneFromLast [.ref o, .int (jI t)] (wBook E o a b x y m) (lnF x y t m.toNat 0) (wBook E o a b x y m) := by
  refine jMI_of (cc := cX1_laneFromLast) (maxL := 4) (ret := (some .int)) [(0, .ref o), (1, .int (jI t))] (by decide) rfl rfl (Nat.le_of_ble_eq_true rfl) (fun C => ?_)
  show jG mX1_laneFromLast E C (jQi E C (lnF x y t m.toNat 0) (wBook E o a b x y m)) 0 0 0 [(0, .ref o), (1, .int (jI t))] [] (wBook E o a b x y m)
  refine j_iconst 1 dX1_laneFromLast_0 rfl ?_
  refine j_istore_n 2 [_, _, _] dX1_laneFromLast_1 rfl (by decide) rfl ?_
  refine j_aload_n 1 3 dX1_laneFromLast_2 rfl rfl ?_
  refine j_get 0 2 1 6 in_X1_laneFromLast_X1 dX1_laneFromLast_3 rfl rfl rfl (by decide) rfl rfl ?_
  refine j_iconst 7 dX1_laneFromLast_6 rfl ?_
  refine j_isub 8 dX1_laneFromLast_7 rfl ?_
  refine j_istore_n 9 [_, _, _, _] dX1_laneFromLast_8 rfl (by decide) rfl ?_
  have key9 : ∀ (fu : Nat) (i : Int), i + 1 < fu → -1 ≤ i ∧ i < m → jG mX1_laneFromLast E C (jQi E C (lnF x y t m.toNat 0) (wBook E o a b x y m)) 0 0 9 [(0, .ref o), (1, .int (jI t)), (2, .int (jI (lnF x y t (m - (i + 1)).toNat (i + 1)))), (3, .int (jI i))] [] (wBook E o a b x y m) := by
    intro fu
    induction fu with
    | zero => intro i h1 h2; exact absurd h1 (by omega)
    | succ fu ih =>
      intro i h1 h2
      refine j_iload_n 3 10 dX1_laneFromLast_9 rfl rfl ?_
      refine j_if_lt 39 13 dX1_laneFromLast_10 rfl (by decide) (by omega) (fun h_10 => ?_) (fun h_10 => ?_)
      · skip
        obtain rfl : i = -1 := by omega
        rw [show (m - (-1 + 1)).toNat = m.toNat by omega, show (-1 + 1 : Int) = 0 by omega]
        refine j_iload_n 2 40 dX1_laneFromLast_39 rfl rfl ?_
        exact j_iret dX1_laneFromLast_40 rfl (by rfl) (by rfl)
      · skip
        refine j_aload_n 0 14 dX1_laneFromLast_13 rfl rfl ?_
        refine j_get 0 0 2 17 in_X1_laneFromLast_X1 dX1_laneFromLast_14 rfl rfl rfl (by decide) rfl rfl ?_
        refine j_iload_n 3 18 dX1_laneFromLast_17 rfl rfl ?_
        refine j_iald 1 19 dX1_laneFromLast_18 rfl rfl (by decide) (by omega) ?_
        refine j_iload_n 1 20 dX1_laneFromLast_19 rfl rfl ?_
        refine j_callSi [] 23 [_, _, _] (c_X6_shortOf E _ _ (by exact hx _) (by omega)) rfl kX1_laneFromLast_X6_shortOf rfl rfl rfl rfl rfl (Nat.le_of_ble_eq_true rfl) (by decide) dX1_laneFromLast_20 rfl ?_
        have hs := tShort_rng (x i) t
        refine j_if_ne 33 26 dX1_laneFromLast_23 rfl (by decide) (by omega) (fun h_23 => ?_) (fun h_23 => ?_)
        · skip
          refine j_iinc 3 36 [_, _, _, _] dX1_laneFromLast_33 rfl rfl (by decide) rfl ?_
          refine j_goto 9 dX1_laneFromLast_36 (by decide) ?_
          refine j_perm [1, 2, 3, 0] rfl ?_
          have g := ih (i - 1) (by omega) (by omega)
          rw [show i - 1 + 1 = i by omega, show (m - i).toNat = (m - (i + 1)).toNat + 1 by omega, lnF] at g
          first
            | (rw [if_pos h_23] at g; exact g)
            | (rw [if_neg h_23] at g; exact g)
        · skip
          refine j_aload_n 0 27 dX1_laneFromLast_26 rfl rfl ?_
          refine j_get 0 1 3 30 in_X1_laneFromLast_X1 dX1_laneFromLast_27 rfl rfl rfl (by decide) rfl rfl ?_
          refine j_iload_n 3 31 dX1_laneFromLast_30 rfl rfl ?_
          refine j_iald 2 32 dX1_laneFromLast_31 rfl rfl (by decide) (by omega) ?_
          refine j_istore_n 33 [_, _, _, _] dX1_laneFromLast_32 rfl (by decide) rfl ?_
          refine j_iinc 3 36 [_, _, _, _] dX1_laneFromLast_33 rfl rfl (by decide) rfl ?_
          refine j_goto 9 dX1_laneFromLast_36 (by decide) ?_
          refine j_perm [2, 3, 1, 0] rfl ?_
          have g := ih (i - 1) (by omega) (by omega)
          rw [show i - 1 + 1 = i by omega, show (m - i).toNat = (m - (i + 1)).toNat + 1 by omega, lnF] at g
          first
            | (rw [if_pos h_23] at g; exact g)
            | (rw [if_neg h_23] at g; exact g)
  refine j_perm [2, 3, 1, 0] rfl ?_
  have g := key9 (m.toNat + 1) (m - 1) (by omega) (by omega)
  rw [show (m - (m - 1 + 1)).toNat = 0 by omega] at g
  exact g
theorem kX1_isHidden_X1_has : jKv mX1_isHidden 22 yX1_has wsX1_has rmX1_has 1 := ⟨gX1_isHidden_X1_has, ⟨_, _, _, _, rfl, by decide⟩, by decide +kernel, rfl, rfl, by decide⟩
set_option maxRecDepth 20000 in
theorem in_X1_isHidden_X1 : ∀ x ∈ u_ws RX1 TX1 3, x ∈ wsX1_isHidden := by decide +kernel
theorem kX1_isHidden_X6_shortOf : jKs mX1_isHidden 26 yX6_shortOf wsX6_shortOf rmX6_shortOf 2 := ⟨gX1_isHidden_X6_shortOf, ⟨_, _, _, _, rfl, by decide⟩, by decide +kernel, rfl, rfl, by decide⟩
set_option maxRecDepth 100000 in
set_option maxHeartbeats 4000000 in
theorem c_X1_isHidden (E : jE) (o a b : Nat) (x y : Int → Int) (m : Int) (r : Int) (hm : 0 ≤ m ∧ m ≤ 8) (hx : ∀ i, 0 ≤ x i ∧ x i < 2147483648) (hr : 0 ≤ r ∧ r < m) : jMI E yX1_isHidden wsX1_isHidden rmX1_isHidden [.ref o, .int (jI r)] (wBook E o a b x y m) (hidF x (x r) r.toNat 0) (wBook E o a b x y m) := by
  refine jMI_of (cc := cX1_isHidden) (maxL := 3) (ret := (some .boolean)) [(0, .ref o), (1, .int (jI r))] (by decide) rfl rfl (Nat.le_of_ble_eq_true rfl) (fun C => ?_)
  show jG mX1_isHidden E C (jQi E C (hidF x (x r) r.toNat 0) (wBook E o a b x y m)) 0 0 0 [(0, .ref o), (1, .int (jI r))] [] (wBook E o a b x y m)
  refine j_aload_n 0 1 dX1_isHidden_0 rfl rfl ?_
  refine j_iload_n 1 2 dX1_isHidden_1 rfl rfl ?_
  refine j_callVi 0 [0, 1, 2] 5 [_, _, _] (c_X1_has E _ _ _ _ _ _ _ (by omega) (by omega)) rfl kX1_isHidden_X1_has rfl rfl rfl rfl rfl rfl rfl (Nat.le_of_ble_eq_true rfl) (by decide) dX1_isHidden_2 rfl ?_
  rw [if_pos (by omega)]
  refine j_if_ne 10 8 dX1_isHidden_5 rfl (by decide) (by omega) (fun h_5 => ?_) (fun h_5 => ?_)
  · skip
    refine j_iconst 11 dX1_isHidden_10 rfl ?_
    refine j_istore_n 12 [_, _, _] dX1_isHidden_11 rfl (by decide) rfl ?_
    have key12 : ∀ (fu : Nat) (i : Int), r < i + fu → 0 ≤ i ∧ i ≤ r → hidF x (x r) r.toNat 0 = hidF x (x r) (r - i).toNat i → jG mX1_isHidden E C (jQi E C (hidF x (x r) r.toNat 0) (wBook E o a b x y m)) 0 0 12 [(0, .ref o), (1, .int (jI r)), (2, .int (jI i))] [] (wBook E o a b x y m) := by
      intro fu
      induction fu with
      | zero => intro i h1 h2 he; exact absurd h1 (by omega)
      | succ fu ih =>
        intro i h1 h2 he
        refine j_iload_n 2 13 dX1_isHidden_12 rfl rfl ?_
        refine j_iload_n 1 14 dX1_isHidden_13 rfl rfl ?_
        refine j_icmp_ge 43 17 dX1_isHidden_14 rfl (by decide) (by omega) (by omega) (fun h_14 => ?_) (fun h_14 => ?_)
        · skip
          obtain rfl : i = r := by omega
          rw [Int.sub_self] at he
          change _ = (0 : Int) at he
          refine j_iconst 44 dX1_isHidden_43 rfl ?_
          exact j_zret dX1_isHidden_44 rfl (by rw [he]) (by omega) (by rfl)
        · skip
          rw [show (r - i).toNat = (r - (i + 1)).toNat + 1 by omega, hidF] at he
          refine j_aload_n 0 18 dX1_isHidden_17 rfl rfl ?_
          refine j_get 0 0 1 21 in_X1_isHidden_X1 dX1_isHidden_18 rfl rfl rfl (by decide) rfl rfl ?_
          refine j_iload_n 2 22 dX1_isHidden_21 rfl rfl ?_
          refine j_iald 1 23 dX1_isHidden_22 rfl rfl (by decide) (by omega) ?_
          refine j_aload_n 0 24 dX1_isHidden_23 rfl rfl ?_
          refine j_get 0 0 1 27 in_X1_isHidden_X1 dX1_isHidden_24 rfl rfl rfl (by decide) rfl rfl ?_
          refine j_iload_n 1 28 dX1_isHidden_27 rfl rfl ?_
          refine j_iald 1 29 dX1_isHidden_28 rfl rfl (by decide) (by omega) ?_
          refine j_callSi [] 32 [_, _, _] (c_X6_shortOf E _ _ (by exact hx _) (by exact hx _)) rfl kX1_isHidden_X6_shortOf rfl rfl rfl rfl rfl (Nat.le_of_ble_eq_true rfl) (by decide) dX1_isHidden_29 rfl ?_
          have hs := tShort_rng (x i) (x r)
          refine j_if_ne 37 35 dX1_isHidden_32 rfl (by decide) (by omega) (fun h_32 => ?_) (fun h_32 => ?_)
          · skip
            refine j_iinc 2 40 [_, _, _] dX1_isHidden_37 rfl rfl (by decide) rfl ?_
            refine j_goto 12 dX1_isHidden_40 (by decide) ?_
            refine j_perm [1, 2, 0] rfl ?_
            rw [if_neg h_32] at he
            exact ih (i + 1) (by omega) (by omega) he
          · skip
            rw [if_pos h_32] at he
            refine j_iconst 36 dX1_isHidden_35 rfl ?_
            exact j_zret dX1_isHidden_36 rfl (by rw [he]) (by omega) (by rfl)
    refine j_perm [1, 2, 0] rfl ?_
    exact key12 (r.toNat + 1) 0 (by omega) (by omega) (by rw [Int.sub_zero])
  · skip
    exact absurd h_5 (by omega)
set_option maxRecDepth 20000 in
theorem in_X1_copyFrom_X1 : ∀ x ∈ u_ws RX1 TX1 3, x ∈ wsX1_copyFrom := by decide +kernel
set_option maxRecDepth 100000 in
set_option maxHeartbeats 4000000 in
theorem c_X1_copyFrom (E : jE) (o a b : Nat) (x y : Int → Int) (m : Int) (o2 a2 b2 : Nat) (x2 y2 : Int → Int) (m2 : Int)  : jMV E yX1_copyFrom wsX1_copyFrom rmX1_copyFrom [.ref o, .ref o2] (wBook E o a b x y m ++ wBook E o2 a2 b2 x2 y2 m2) (wBook E o a b x2 y2 m2 ++ wBook E o2 a2 b2 x2 y2 m2) := by
  refine jMV_of (cc := cX1_copyFrom) (maxL := 2) (ret := none) [(0, .ref o), (1, .ref o2)] (by decide) rfl rfl (Nat.le_of_ble_eq_true rfl) (fun C => ?_)
  show jG mX1_copyFrom E C (jQv E C (wBook E o a b x2 y2 m2 ++ wBook E o2 a2 b2 x2 y2 m2)) 0 0 0 [(0, .ref o), (1, .ref o2)] [] (wBook E o a b x y m ++ wBook E o2 a2 b2 x2 y2 m2)
  refine j_aload_n 1 1 dX1_copyFrom_0 rfl rfl ?_
  refine j_get 3 0 1 4 in_X1_copyFrom_X1 dX1_copyFrom_1 rfl rfl rfl (by decide) rfl rfl ?_
  refine j_iconst 5 dX1_copyFrom_4 rfl ?_
  refine j_aload_n 0 6 dX1_copyFrom_5 rfl rfl ?_
  refine j_get 0 0 1 9 in_X1_copyFrom_X1 dX1_copyFrom_6 rfl rfl rfl (by decide) rfl rfl ?_
  refine j_iconst 10 dX1_copyFrom_9 rfl ?_
  refine j_bipush 12 dX1_copyFrom_10 rfl (by decide) ?_
  refine j_copyi 4 1 15 [_, _, _, _, _, _] (List.mem_of_getElem? (i := 2) rfl) (List.mem_of_getElem? (i := 3) rfl) (List.mem_of_getElem? (i := 4) rfl) (List.mem_of_getElem? (i := 5) rfl) (by decide) dX1_copyFrom_12 rfl rfl rfl (by decide) (by omega) rfl ?_
  refine j_aload_n 1 16 dX1_copyFrom_15 rfl rfl ?_
  refine j_get 3 1 6 19 in_X1_copyFrom_X1 dX1_copyFrom_16 rfl rfl rfl (by decide) rfl rfl ?_
  refine j_iconst 20 dX1_copyFrom_19 rfl ?_
  refine j_aload_n 0 21 dX1_copyFrom_20 rfl rfl ?_
  refine j_get 0 1 6 24 in_X1_copyFrom_X1 dX1_copyFrom_21 rfl rfl rfl (by decide) rfl rfl ?_
  refine j_iconst 25 dX1_copyFrom_24 rfl ?_
  refine j_bipush 27 dX1_copyFrom_25 rfl (by decide) ?_
  refine j_copyi 5 2 30 [_, _, _, _, _, _] (List.mem_of_getElem? (i := 2) rfl) (List.mem_of_getElem? (i := 3) rfl) (List.mem_of_getElem? (i := 4) rfl) (List.mem_of_getElem? (i := 5) rfl) (by decide) dX1_copyFrom_27 rfl rfl rfl (by decide) (by omega) rfl ?_
  refine j_aload_n 0 31 dX1_copyFrom_30 rfl rfl ?_
  refine j_aload_n 1 32 dX1_copyFrom_31 rfl rfl ?_
  refine j_get 3 2 7 35 in_X1_copyFrom_X1 dX1_copyFrom_32 rfl rfl rfl (by decide) rfl rfl ?_
  refine j_put 0 2 7 38 [(_, .inr (_, [_, _, _])), _, _, _, _, _] tyX1 tyX1_ok nmX1 in_X1_copyFrom_X1 dX1_copyFrom_35 rfl rfl rfl (by decide) rfl rfl rfl rfl rfl (Nat.le_of_ble_eq_true rfl) rfl ?_
  refine j_eqv (w' := wBook E o a b x2 y2 m2 ++ wBook E o2 a2 b2 x2 y2 m2) (jEqR (jEqA (fun i hi => jCp_full (by omega)) (jEqA (fun i hi => jCp_full (by omega)) (jEqR (jEqR (jEqR jEq0)))))) ?_
  exact j_vret dX1_copyFrom_38 rfl (by rfl)
set_option maxRecDepth 20000 in
theorem in_X2_appleAt_X2 : ∀ x ∈ u_ws RX2 TX2 2, x ∈ wsX2_appleAt := by decide +kernel
set_option maxRecDepth 100000 in
set_option maxHeartbeats 4000000 in
theorem c_X2_appleAt (E : jE) (o a b : Nat) (x y : Int → Int) (l i : Int) (hi : 0 ≤ l * 20 + i ∧ l * 20 + i < 592) : jMI E yX2_appleAt wsX2_appleAt rmX2_appleAt [.ref o, .int (jI l), .int (jI i)] (wBoxes E o a b x y) (y (l * 20 + i)) (wBoxes E o a b x y) := by
  refine jMI_of (cc := cX2_appleAt) (maxL := 3) (ret := (some .int)) [(0, .ref o), (1, .int (jI l)), (2, .int (jI i))] (by decide) rfl rfl (Nat.le_of_ble_eq_true rfl) (fun C => ?_)
  show jG mX2_appleAt E C (jQi E C (y (l * 20 + i)) (wBoxes E o a b x y)) 0 0 0 [(0, .ref o), (1, .int (jI l)), (2, .int (jI i))] [] (wBoxes E o a b x y)
  refine j_aload_n 0 1 dX2_appleAt_0 rfl rfl ?_
  refine j_get 0 1 1 4 in_X2_appleAt_X2 dX2_appleAt_1 rfl rfl rfl (by decide) rfl rfl ?_
  refine j_iload_n 1 5 dX2_appleAt_4 rfl rfl ?_
  refine j_bipush 7 dX2_appleAt_5 rfl (by decide) ?_
  refine j_imul 8 dX2_appleAt_7 rfl ?_
  refine j_iload_n 2 9 dX2_appleAt_8 rfl rfl ?_
  refine j_iadd 10 dX2_appleAt_9 rfl ?_
  refine j_iald 2 11 dX2_appleAt_10 rfl rfl (by decide) (by omega) ?_
  exact j_iret dX2_appleAt_11 rfl (by first | rfl | (congr 1; omega)) (by rfl)
set_option maxRecDepth 20000 in
theorem in_X2_put_X2 : ∀ x ∈ u_ws RX2 TX2 2, x ∈ wsX2_put := by decide +kernel
set_option maxRecDepth 100000 in
set_option maxHeartbeats 4000000 in
theorem c_X2_put (E : jE) (o a b : Nat) (x y : Int → Int) (l t : Int) (hl : 0 ≤ l ∧ l ≤ 4) (hn : 0 ≤ x l ∧ (l < 4 → x l < 20) ∧ x l < 512) : jMV E yX2_put wsX2_put rmX2_put [.ref o, .int (jI l), .int (jI t)] (wBoxes E o a b x y) (wBoxes E o a b (jU x l (x l + 1)) (jU y (l * 20 + x l) t)) := by
  refine jMV_of (cc := cX2_put) (maxL := 4) (ret := none) [(0, .ref o), (1, .int (jI l)), (2, .int (jI t))] (by decide) rfl rfl (Nat.le_of_ble_eq_true rfl) (fun C => ?_)
  show jG mX2_put E C (jQv E C (wBoxes E o a b (jU x l (x l + 1)) (jU y (l * 20 + x l) t))) 0 0 0 [(0, .ref o), (1, .int (jI l)), (2, .int (jI t))] [] (wBoxes E o a b x y)
  refine j_iload_n 1 1 dX2_put_0 rfl rfl ?_
  refine j_iconst 2 dX2_put_1 rfl ?_
  refine j_icmp_ne 11 5 dX2_put_2 rfl (by decide) (by omega) (by omega) (fun h_2 => ?_) (fun h_2 => ?_)
  · skip
    refine j_bipush 13 dX2_put_11 rfl (by decide) ?_
    refine j_istore_n 14 [_, _, _, _] dX2_put_13 rfl (by decide) rfl ?_
    refine j_aload_n 1 15 dX2_put_14 rfl rfl ?_
    refine j_get 0 0 1 18 in_X2_put_X2 dX2_put_15 rfl rfl rfl (by decide) rfl rfl ?_
    refine j_iload_n 2 19 dX2_put_18 rfl rfl ?_
    refine j_iald 1 20 dX2_put_19 rfl rfl (by decide) (by omega) ?_
    refine j_iload_n 0 21 dX2_put_20 rfl rfl ?_
    refine j_icmp_ge 51 24 dX2_put_21 rfl (by decide) (by omega) (by omega) (fun h_21 => ?_) (fun h_21 => ?_)
    · skip
      exact absurd h_21 (by omega)
    · skip
      refine j_aload_n 1 25 dX2_put_24 rfl rfl ?_
      refine j_get 0 1 2 28 in_X2_put_X2 dX2_put_25 rfl rfl rfl (by decide) rfl rfl ?_
      refine j_iload_n 2 29 dX2_put_28 rfl rfl ?_
      refine j_bipush 31 dX2_put_29 rfl (by decide) ?_
      refine j_imul 32 dX2_put_31 rfl ?_
      refine j_aload_n 1 33 dX2_put_32 rfl rfl ?_
      refine j_get 0 0 1 36 in_X2_put_X2 dX2_put_33 rfl rfl rfl (by decide) rfl rfl ?_
      refine j_iload_n 2 37 dX2_put_36 rfl rfl ?_
      refine j_iald 1 38 dX2_put_37 rfl rfl (by decide) (by omega) ?_
      refine j_iadd 39 dX2_put_38 rfl ?_
      refine j_iload_n 3 40 dX2_put_39 rfl rfl ?_
      refine j_iast 2 41 [_, _, _] dX2_put_40 rfl rfl (by decide) (by omega) rfl ?_
      refine j_aload_n 1 42 dX2_put_41 rfl rfl ?_
      refine j_get 0 0 1 45 in_X2_put_X2 dX2_put_42 rfl rfl rfl (by decide) rfl rfl ?_
      refine j_iload_n 2 46 dX2_put_45 rfl rfl ?_
      refine j_dup2 47 dX2_put_46 rfl rfl rfl ?_
      refine j_iald 1 48 dX2_put_47 rfl rfl (by decide) (by omega) ?_
      refine j_iconst 49 dX2_put_48 rfl ?_
      refine j_iadd 50 dX2_put_49 rfl ?_
      refine j_iast 1 51 [_, _, _] dX2_put_50 rfl rfl (by decide) (by omega) rfl ?_
      exact j_vret dX2_put_51 rfl (by rfl)
  · skip
    refine j_sipush 8 dX2_put_5 rfl (by decide) ?_
    refine j_goto 13 dX2_put_8 (by decide) ?_
    refine j_istore_n 14 [_, _, _, _] dX2_put_13 rfl (by decide) rfl ?_
    refine j_aload_n 1 15 dX2_put_14 rfl rfl ?_
    refine j_get 0 0 1 18 in_X2_put_X2 dX2_put_15 rfl rfl rfl (by decide) rfl rfl ?_
    refine j_iload_n 2 19 dX2_put_18 rfl rfl ?_
    refine j_iald 1 20 dX2_put_19 rfl rfl (by decide) (by omega) ?_
    refine j_iload_n 0 21 dX2_put_20 rfl rfl ?_
    refine j_icmp_ge 51 24 dX2_put_21 rfl (by decide) (by omega) (by omega) (fun h_21 => ?_) (fun h_21 => ?_)
    · skip
      exact absurd h_21 (by omega)
    · skip
      refine j_aload_n 1 25 dX2_put_24 rfl rfl ?_
      refine j_get 0 1 2 28 in_X2_put_X2 dX2_put_25 rfl rfl rfl (by decide) rfl rfl ?_
      refine j_iload_n 2 29 dX2_put_28 rfl rfl ?_
      refine j_bipush 31 dX2_put_29 rfl (by decide) ?_
      refine j_imul 32 dX2_put_31 rfl ?_
      refine j_aload_n 1 33 dX2_put_32 rfl rfl ?_
      refine j_get 0 0 1 36 in_X2_put_X2 dX2_put_33 rfl rfl rfl (by decide) rfl rfl ?_
      refine j_iload_n 2 37 dX2_put_36 rfl rfl ?_
      refine j_iald 1 38 dX2_put_37 rfl rfl (by decide) (by omega) ?_
      refine j_iadd 39 dX2_put_38 rfl ?_
      refine j_iload_n 3 40 dX2_put_39 rfl rfl ?_
      refine j_iast 2 41 [_, _, _] dX2_put_40 rfl rfl (by decide) (by omega) rfl ?_
      refine j_aload_n 1 42 dX2_put_41 rfl rfl ?_
      refine j_get 0 0 1 45 in_X2_put_X2 dX2_put_42 rfl rfl rfl (by decide) rfl rfl ?_
      refine j_iload_n 2 46 dX2_put_45 rfl rfl ?_
      refine j_dup2 47 dX2_put_46 rfl rfl rfl ?_
      refine j_iald 1 48 dX2_put_47 rfl rfl (by decide) (by omega) ?_
      refine j_iconst 49 dX2_put_48 rfl ?_
      refine j_iadd 50 dX2_put_49 rfl ?_
      refine j_iast 1 51 [_, _, _] dX2_put_50 rfl rfl (by decide) (by omega) rfl ?_
      exact j_vret dX2_put_51 rfl (by rfl)
set_option maxRecDepth 20000 in
theorem in_X2_applesBelow_X2 : ∀ x ∈ u_ws RX2 TX2 2, x ∈ wsX2_applesBelow := by decide +kernel
set_option maxRecDepth 100000 in
set_option maxHeartbeats 4000000 in
theorem c_X2_applesBelow (E : jE) (o a b : Nat) (x y : Int → Int) (e : Nat) (he : e ≤ 5) : jMI E yX2_applesBelow wsX2_applesBelow rmX2_applesBelow [.ref o, .int (jI (e : Int))] (wBoxes E o a b x y) (jSum x e) (wBoxes E o a b x y) := by
  refine jMI_of (cc := cX2_applesBelow) (maxL := 4) (ret := (some .int)) [(0, .ref o), (1, .int (jI (e : Int)))] (by decide) rfl rfl (Nat.le_of_ble_eq_true rfl) (fun C => ?_)
  show jG mX2_applesBelow E C (jQi E C (jSum x e) (wBoxes E o a b x y)) 0 0 0 [(0, .ref o), (1, .int (jI (e : Int)))] [] (wBoxes E o a b x y)
  refine j_iconst 1 dX2_applesBelow_0 rfl ?_
  refine j_istore_n 2 [_, _, _] dX2_applesBelow_1 rfl (by decide) rfl ?_
  refine j_iconst 3 dX2_applesBelow_2 rfl ?_
  refine j_istore_n 4 [_, _, _, _] dX2_applesBelow_3 rfl (by decide) rfl ?_
  have key4 : ∀ (fu i : Nat), e < i + fu → i ≤ e → jG mX2_applesBelow E C (jQi E C (jSum x e) (wBoxes E o a b x y)) 0 0 4 [(0, .ref o), (1, .int (jI (e : Int))), (2, .int (jI (jSum x i))), (3, .int (jI (i : Int)))] [] (wBoxes E o a b x y) := by
    intro fu
    induction fu with
    | zero => intro i h1 h2; exact absurd h1 (by omega)
    | succ fu ih =>
      intro i h1 h2
      refine j_iload_n 3 5 dX2_applesBelow_4 rfl rfl ?_
      refine j_iload_n 1 6 dX2_applesBelow_5 rfl rfl ?_
      refine j_icmp_ge 29 9 dX2_applesBelow_6 rfl (by decide) (by omega) (by omega) (fun h_6 => ?_) (fun h_6 => ?_)
      · skip
        obtain rfl : i = e := by omega
        refine j_iload_n 2 30 dX2_applesBelow_29 rfl rfl ?_
        exact j_iret dX2_applesBelow_30 rfl (by rfl) (by rfl)
      · skip
        refine j_iload_n 3 10 dX2_applesBelow_9 rfl rfl ?_
        refine j_iconst 11 dX2_applesBelow_10 rfl ?_
        refine j_icmp_gt 29 14 dX2_applesBelow_11 rfl (by decide) (by omega) (by omega) (fun h_11 => ?_) (fun h_11 => ?_)
        · skip
          exact absurd h_11 (by omega)
        · skip
          refine j_iload_n 2 15 dX2_applesBelow_14 rfl rfl ?_
          refine j_aload_n 0 16 dX2_applesBelow_15 rfl rfl ?_
          refine j_get 0 0 1 19 in_X2_applesBelow_X2 dX2_applesBelow_16 rfl rfl rfl (by decide) rfl rfl ?_
          refine j_iload_n 3 20 dX2_applesBelow_19 rfl rfl ?_
          refine j_iald 1 21 dX2_applesBelow_20 rfl rfl (by decide) (by omega) ?_
          refine j_iadd 22 dX2_applesBelow_21 rfl ?_
          refine j_istore_n 23 [_, _, _, _] dX2_applesBelow_22 rfl (by decide) rfl ?_
          refine j_iinc 3 26 [_, _, _, _] dX2_applesBelow_23 rfl rfl (by decide) rfl ?_
          refine j_goto 4 dX2_applesBelow_26 (by decide) ?_
          refine j_perm [2, 3, 1, 0] rfl ?_
          exact ih (i + 1) (by omega) (by omega)
  refine j_perm [2, 3, 1, 0] rfl ?_
  exact key4 (e + 1) 0 (by omega) (by omega)
set_option maxRecDepth 20000 in
theorem in_X2_weightIn_X2 : ∀ x ∈ u_ws RX2 TX2 2, x ∈ wsX2_weightIn := by decide +kernel
theorem kX2_weightIn_X2_appleAt : jKv mX2_weightIn 18 yX2_appleAt wsX2_appleAt rmX2_appleAt 2 := ⟨gX2_weightIn_X2_appleAt, ⟨_, _, _, _, rfl, by decide⟩, by decide +kernel, rfl, rfl, by decide⟩
theorem kX2_weightIn_X6_weight : jKs mX2_weightIn 22 yX6_weight wsX6_weight rmX6_weight 1 := ⟨gX2_weightIn_X6_weight, ⟨_, _, _, _, rfl, by decide⟩, by decide +kernel, rfl, rfl, by decide⟩
set_option maxRecDepth 100000 in
set_option maxHeartbeats 4000000 in
theorem c_X2_weightIn (E : jE) (o a b : Nat) (x y : Int → Int) (l : Int) (hl : 0 ≤ l ∧ l ≤ 4) (hn : 0 ≤ x l ∧ (l < 4 → x l ≤ 20) ∧ x l ≤ 512) (hy : ∀ i, 0 ≤ y i ∧ y i < 2147483648) : jMI E yX2_weightIn wsX2_weightIn rmX2_weightIn [.ref o, .int (jI l)] (wBoxes E o a b x y) (jSum (fun i => tW (y (l * 20 + i))) (x l).toNat) (wBoxes E o a b x y) := by
  refine jMI_of (cc := cX2_weightIn) (maxL := 4) (ret := (some .int)) [(0, .ref o), (1, .int (jI l))] (by decide) rfl rfl (Nat.le_of_ble_eq_true rfl) (fun C => ?_)
  show jG mX2_weightIn E C (jQi E C (jSum (fun i => tW (y (l * 20 + i))) (x l).toNat) (wBoxes E o a b x y)) 0 0 0 [(0, .ref o), (1, .int (jI l))] [] (wBoxes E o a b x y)
  refine j_iconst 1 dX2_weightIn_0 rfl ?_
  refine j_istore_n 2 [_, _, _] dX2_weightIn_1 rfl (by decide) rfl ?_
  refine j_iconst 3 dX2_weightIn_2 rfl ?_
  refine j_istore_n 4 [_, _, _, _] dX2_weightIn_3 rfl (by decide) rfl ?_
  have key4 : ∀ (fu i : Nat), (x l).toNat < i + fu → (i : Int) ≤ x l → jG mX2_weightIn E C (jQi E C (jSum (fun i => tW (y (l * 20 + i))) (x l).toNat) (wBoxes E o a b x y)) 0 0 4 [(0, .ref o), (1, .int (jI l)), (2, .int (jI (jSum (fun i => tW (y (l * 20 + i))) i))), (3, .int (jI (i : Int)))] [] (wBoxes E o a b x y) := by
    intro fu
    induction fu with
    | zero => intro i h1 h2; exact absurd h1 (by omega)
    | succ fu ih =>
      intro i h1 h2
      refine j_iload_n 3 5 dX2_weightIn_4 rfl rfl ?_
      refine j_aload_n 0 6 dX2_weightIn_5 rfl rfl ?_
      refine j_get 0 0 1 9 in_X2_weightIn_X2 dX2_weightIn_6 rfl rfl rfl (by decide) rfl rfl ?_
      refine j_iload_n 1 10 dX2_weightIn_9 rfl rfl ?_
      refine j_iald 1 11 dX2_weightIn_10 rfl rfl (by decide) (by omega) ?_
      refine j_icmp_ge 32 14 dX2_weightIn_11 rfl (by decide) (by omega) (by omega) (fun h_11 => ?_) (fun h_11 => ?_)
      · skip
        obtain rfl : i = (x l).toNat := by omega
        refine j_iload_n 2 33 dX2_weightIn_32 rfl rfl ?_
        exact j_iret dX2_weightIn_33 rfl (by rfl) (by rfl)
      · skip
        refine j_iload_n 2 15 dX2_weightIn_14 rfl rfl ?_
        refine j_aload_n 0 16 dX2_weightIn_15 rfl rfl ?_
        refine j_iload_n 1 17 dX2_weightIn_16 rfl rfl ?_
        refine j_iload_n 3 18 dX2_weightIn_17 rfl rfl ?_
        refine j_callVi 0 [0, 1, 2] 21 [_, _, _] (c_X2_appleAt E _ _ _ _ _ _ _ (by omega)) rfl kX2_weightIn_X2_appleAt rfl rfl rfl rfl rfl rfl rfl (Nat.le_of_ble_eq_true rfl) (by decide) dX2_weightIn_18 rfl ?_
        refine j_callSi [] 24 [_, _, _] (c_X6_weight E _ (by exact hy _)) rfl kX2_weightIn_X6_weight rfl rfl rfl rfl rfl (Nat.le_of_ble_eq_true rfl) (by decide) dX2_weightIn_21 rfl ?_
        refine j_iadd 25 dX2_weightIn_24 rfl ?_
        refine j_istore_n 26 [_, _, _, _] dX2_weightIn_25 rfl (by decide) rfl ?_
        refine j_iinc 3 29 [_, _, _, _] dX2_weightIn_26 rfl rfl (by decide) rfl ?_
        refine j_goto 4 dX2_weightIn_29 (by decide) ?_
        refine j_perm [2, 3, 1, 0] rfl ?_
        exact ih (i + 1) (by omega) (by omega)
  refine j_perm [2, 3, 1, 0] rfl ?_
  exact key4 ((x l).toNat + 1) 0 (by omega) (by omega)
set_option maxRecDepth 20000 in
theorem in_X2_leastRed_X2 : ∀ x ∈ u_ws RX2 TX2 2, x ∈ wsX2_leastRed := by decide +kernel
theorem kX2_leastRed_X2_appleAt : jKv mX2_leastRed 18 yX2_appleAt wsX2_appleAt rmX2_appleAt 2 := ⟨gX2_leastRed_X2_appleAt, ⟨_, _, _, _, rfl, by decide⟩, by decide +kernel, rfl, rfl, by decide⟩
theorem kX2_leastRed_X6_red : jKs mX2_leastRed 28 yX6_red wsX6_red rmX6_red 1 := ⟨gX2_leastRed_X6_red, ⟨_, _, _, _, rfl, by decide⟩, by decide +kernel, rfl, rfl, by decide⟩
set_option maxRecDepth 100000 in
set_option maxHeartbeats 4000000 in
theorem c_X2_leastRed (E : jE) (o a b : Nat) (x y : Int → Int) (l : Int) (hl : 0 ≤ l ∧ l ≤ 4) (hn : 0 ≤ x l ∧ (l < 4 → x l ≤ 20) ∧ x l ≤ 512) (hy : ∀ i, 0 ≤ y i ∧ y i < 2147483648) : jMI E yX2_leastRed wsX2_leastRed rmX2_leastRed [.ref o, .int (jI l)] (wBoxes E o a b x y) (lrU y (l * 20) (x l).toNat) (wBoxes E o a b x y) := by
  refine jMI_of (cc := cX2_leastRed) (maxL := 5) (ret := (some .int)) [(0, .ref o), (1, .int (jI l))] (by decide) rfl rfl (Nat.le_of_ble_eq_true rfl) (fun C => ?_)
  show jG mX2_leastRed E C (jQi E C (lrU y (l * 20) (x l).toNat) (wBoxes E o a b x y)) 0 0 0 [(0, .ref o), (1, .int (jI l))] [] (wBoxes E o a b x y)
  refine j_bipush 2 dX2_leastRed_0 rfl (by decide) ?_
  refine j_istore_n 3 [_, _, _] dX2_leastRed_2 rfl (by decide) rfl ?_
  refine j_iconst 4 dX2_leastRed_3 rfl ?_
  refine j_istore_n 5 [_, _, _, _] dX2_leastRed_4 rfl (by decide) rfl ?_
  have key5 : ∀ (fu i : Nat), (x l).toNat < i + fu → (i : Int) ≤ x l → jG mX2_leastRed E C (jQi E C (lrU y (l * 20) (x l).toNat) (wBoxes E o a b x y)) 0 0 5 [(0, .ref o), (1, .int (jI l)), (2, .int (jI (lrU y (l * 20) i))), (3, .int (jI (i : Int)))] [] (wBoxes E o a b x y) := by
    intro fu
    induction fu with
    | zero => intro i h1 h2; exact absurd h1 (by omega)
    | succ fu ih =>
      intro i h1 h2
      refine j_iload_n 3 6 dX2_leastRed_5 rfl rfl ?_
      refine j_aload_n 0 7 dX2_leastRed_6 rfl rfl ?_
      refine j_get 0 0 1 10 in_X2_leastRed_X2 dX2_leastRed_7 rfl rfl rfl (by decide) rfl rfl ?_
      refine j_iload_n 1 11 dX2_leastRed_10 rfl rfl ?_
      refine j_iald 1 12 dX2_leastRed_11 rfl rfl (by decide) (by omega) ?_
      refine j_icmp_ge 47 15 dX2_leastRed_12 rfl (by decide) (by omega) (by omega) (fun h_12 => ?_) (fun h_12 => ?_)
      · skip
        obtain rfl : i = (x l).toNat := by omega
        refine j_iload_n 2 48 dX2_leastRed_47 rfl rfl ?_
        exact j_iret dX2_leastRed_48 rfl (by rfl) (by rfl)
      · skip
        refine j_aload_n 0 16 dX2_leastRed_15 rfl rfl ?_
        refine j_iload_n 1 17 dX2_leastRed_16 rfl rfl ?_
        refine j_iload_n 3 18 dX2_leastRed_17 rfl rfl ?_
        refine j_callVi 0 [0, 1, 2] 21 [_, _, _] (c_X2_appleAt E _ _ _ _ _ _ _ (by omega)) rfl kX2_leastRed_X2_appleAt rfl rfl rfl rfl rfl rfl rfl (Nat.le_of_ble_eq_true rfl) (by decide) dX2_leastRed_18 rfl ?_
        refine j_callSi [] 24 [_, _, _] (c_X6_red E _ (by exact hy _)) rfl kX2_leastRed_X6_red rfl rfl rfl rfl rfl (Nat.le_of_ble_eq_true rfl) (by decide) dX2_leastRed_21 rfl ?_
        refine j_istore 26 [_, _, _, _, _] dX2_leastRed_24 rfl (by decide) rfl ?_
        have q1 := lrU_rng y (l * 20) i
        have q2 := tR_rng (y (l * 20 + i))
        refine j_iload_n 3 27 dX2_leastRed_26 rfl rfl ?_
        refine j_bipush 29 dX2_leastRed_27 rfl (by decide) ?_
        refine j_icmp_eq 38 32 dX2_leastRed_29 rfl (by decide) (by omega) (by omega) (fun h_29 => ?_) (fun h_29 => ?_)
        · skip
          refine j_iload 0 40 dX2_leastRed_38 rfl rfl ?_
          refine j_istore_n 41 [_, _, _, _, _] dX2_leastRed_40 rfl (by decide) rfl ?_
          refine j_iinc 4 44 [_, _, _, _, _] dX2_leastRed_41 rfl rfl (by decide) rfl ?_
          refine j_goto 5 dX2_leastRed_44 (by decide) ?_
          refine j_perm [3, 4, 1, 0] rfl ?_
          have e : lrU y (l * 20) (i + 1) = if lrU y (l * 20) i = -4 ∨ tR (y (l * 20 + i)) < lrU y (l * 20) i then tR (y (l * 20 + i)) else lrU y (l * 20) i := rfl
          have g := ih (i + 1) (by omega) (by omega)
          rw [e] at g
          first
            | (rw [if_pos (by omega)] at g; exact g)
            | (rw [if_neg (by omega)] at g; exact g)
        · skip
          refine j_iload 0 34 dX2_leastRed_32 rfl rfl ?_
          refine j_iload_n 3 35 dX2_leastRed_34 rfl rfl ?_
          refine j_icmp_ge 41 38 dX2_leastRed_35 rfl (by decide) (by omega) (by omega) (fun h_35 => ?_) (fun h_35 => ?_)
          · skip
            refine j_iinc 4 44 [_, _, _, _, _] dX2_leastRed_41 rfl rfl (by decide) rfl ?_
            refine j_goto 5 dX2_leastRed_44 (by decide) ?_
            refine j_perm [2, 3, 4, 0] rfl ?_
            have e : lrU y (l * 20) (i + 1) = if lrU y (l * 20) i = -4 ∨ tR (y (l * 20 + i)) < lrU y (l * 20) i then tR (y (l * 20 + i)) else lrU y (l * 20) i := rfl
            have g := ih (i + 1) (by omega) (by omega)
            rw [e] at g
            first
              | (rw [if_pos (by omega)] at g; exact g)
              | (rw [if_neg (by omega)] at g; exact g)
          · skip
            refine j_iload 0 40 dX2_leastRed_38 rfl rfl ?_
            refine j_istore_n 41 [_, _, _, _, _] dX2_leastRed_40 rfl (by decide) rfl ?_
            refine j_iinc 4 44 [_, _, _, _, _] dX2_leastRed_41 rfl rfl (by decide) rfl ?_
            refine j_goto 5 dX2_leastRed_44 (by decide) ?_
            refine j_perm [3, 4, 1, 0] rfl ?_
            have e : lrU y (l * 20) (i + 1) = if lrU y (l * 20) i = -4 ∨ tR (y (l * 20 + i)) < lrU y (l * 20) i then tR (y (l * 20 + i)) else lrU y (l * 20) i := rfl
            have g := ih (i + 1) (by omega) (by omega)
            rw [e] at g
            first
              | (rw [if_pos (by omega)] at g; exact g)
              | (rw [if_neg (by omega)] at g; exact g)
  refine j_perm [2, 3, 1, 0] rfl ?_
  exact key5 ((x l).toNat + 1) 0 (by omega) (by omega)
set_option maxRecDepth 20000 in
theorem in_X2_greatestBruise_X2 : ∀ x ∈ u_ws RX2 TX2 2, x ∈ wsX2_greatestBruise := by decide +kernel
theorem kX2_greatestBruise_X2_appleAt : jKv mX2_greatestBruise 18 yX2_appleAt wsX2_appleAt rmX2_appleAt 2 := ⟨gX2_greatestBruise_X2_appleAt, ⟨_, _, _, _, rfl, by decide⟩, by decide +kernel, rfl, rfl, by decide⟩
theorem kX2_greatestBruise_X6_bruise : jKs mX2_greatestBruise 31 yX6_bruise wsX6_bruise rmX6_bruise 1 := ⟨gX2_greatestBruise_X6_bruise, ⟨_, _, _, _, rfl, by decide⟩, by decide +kernel, rfl, rfl, by decide⟩
set_option maxRecDepth 100000 in
set_option maxHeartbeats 4000000 in
theorem c_X2_greatestBruise (E : jE) (o a b : Nat) (x y : Int → Int) (l : Int) (hl : 0 ≤ l ∧ l ≤ 4) (hn : 0 ≤ x l ∧ (l < 4 → x l ≤ 20) ∧ x l ≤ 512) (hy : ∀ i, 0 ≤ y i ∧ y i < 2147483648) : jMI E yX2_greatestBruise wsX2_greatestBruise rmX2_greatestBruise [.ref o, .int (jI l)] (wBoxes E o a b x y) (gbU y (l * 20) (x l).toNat) (wBoxes E o a b x y) := by
  refine jMI_of (cc := cX2_greatestBruise) (maxL := 4) (ret := (some .int)) [(0, .ref o), (1, .int (jI l))] (by decide) rfl rfl (Nat.le_of_ble_eq_true rfl) (fun C => ?_)
  show jG mX2_greatestBruise E C (jQi E C (gbU y (l * 20) (x l).toNat) (wBoxes E o a b x y)) 0 0 0 [(0, .ref o), (1, .int (jI l))] [] (wBoxes E o a b x y)
  refine j_bipush 2 dX2_greatestBruise_0 rfl (by decide) ?_
  refine j_istore_n 3 [_, _, _] dX2_greatestBruise_2 rfl (by decide) rfl ?_
  refine j_iconst 4 dX2_greatestBruise_3 rfl ?_
  refine j_istore_n 5 [_, _, _, _] dX2_greatestBruise_4 rfl (by decide) rfl ?_
  have key5 : ∀ (fu i : Nat), (x l).toNat < i + fu → (i : Int) ≤ x l → jG mX2_greatestBruise E C (jQi E C (gbU y (l * 20) (x l).toNat) (wBoxes E o a b x y)) 0 0 5 [(0, .ref o), (1, .int (jI l)), (2, .int (jI (gbU y (l * 20) i))), (3, .int (jI (i : Int)))] [] (wBoxes E o a b x y) := by
    intro fu
    induction fu with
    | zero => intro i h1 h2; exact absurd h1 (by omega)
    | succ fu ih =>
      intro i h1 h2
      refine j_iload_n 3 6 dX2_greatestBruise_5 rfl rfl ?_
      refine j_aload_n 0 7 dX2_greatestBruise_6 rfl rfl ?_
      refine j_get 0 0 1 10 in_X2_greatestBruise_X2 dX2_greatestBruise_7 rfl rfl rfl (by decide) rfl rfl ?_
      refine j_iload_n 1 11 dX2_greatestBruise_10 rfl rfl ?_
      refine j_iald 1 12 dX2_greatestBruise_11 rfl rfl (by decide) (by omega) ?_
      refine j_icmp_ge 35 15 dX2_greatestBruise_12 rfl (by decide) (by omega) (by omega) (fun h_12 => ?_) (fun h_12 => ?_)
      · skip
        obtain rfl : i = (x l).toNat := by omega
        refine j_iload_n 2 36 dX2_greatestBruise_35 rfl rfl ?_
        exact j_iret dX2_greatestBruise_36 rfl (by rfl) (by rfl)
      · skip
        refine j_iload_n 2 16 dX2_greatestBruise_15 rfl rfl ?_
        refine j_aload_n 0 17 dX2_greatestBruise_16 rfl rfl ?_
        refine j_iload_n 1 18 dX2_greatestBruise_17 rfl rfl ?_
        refine j_iload_n 3 19 dX2_greatestBruise_18 rfl rfl ?_
        refine j_callVi 0 [0, 1, 2] 22 [_, _, _] (c_X2_appleAt E _ _ _ _ _ _ _ (by omega)) rfl kX2_greatestBruise_X2_appleAt rfl rfl rfl rfl rfl rfl rfl (Nat.le_of_ble_eq_true rfl) (by decide) dX2_greatestBruise_19 rfl ?_
        refine j_callSi [] 25 [_, _, _] (c_X6_bruise E _ (by exact hy _)) rfl kX2_greatestBruise_X6_bruise rfl rfl rfl rfl rfl (Nat.le_of_ble_eq_true rfl) (by decide) dX2_greatestBruise_22 rfl ?_
        have q1 := gbU_rng y (l * 20) i
        have q2 := tB_rng (y (l * 20 + i))
        refine j_mmax 28 (List.mem_of_getElem? (i := 2) rfl) (List.mem_of_getElem? (i := 3) rfl) (List.mem_of_getElem? (i := 4) rfl) (List.mem_of_getElem? (i := 5) rfl) (by decide) (by decide) dX2_greatestBruise_25 rfl (by omega) (by omega) ?_
        refine j_istore_n 29 [_, _, _, _] dX2_greatestBruise_28 rfl (by decide) rfl ?_
        refine j_iinc 3 32 [_, _, _, _] dX2_greatestBruise_29 rfl rfl (by decide) rfl ?_
        refine j_goto 5 dX2_greatestBruise_32 (by decide) ?_
        refine j_perm [2, 3, 1, 0] rfl ?_
        exact ih (i + 1) (by omega) (by omega)
  refine j_perm [2, 3, 1, 0] rfl ?_
  exact key5 ((x l).toNat + 1) 0 (by omega) (by omega)
set_option maxRecDepth 20000 in
theorem in_X2_copyFrom_X2 : ∀ x ∈ u_ws RX2 TX2 2, x ∈ wsX2_copyFrom := by decide +kernel
set_option maxRecDepth 100000 in
set_option maxHeartbeats 4000000 in
theorem c_X2_copyFrom (E : jE) (o a b : Nat) (x y : Int → Int) (o2 a2 b2 : Nat) (x2 y2 : Int → Int) (hn : 0 ≤ x2 4 ∧ x2 4 ≤ 512) : jMV E yX2_copyFrom wsX2_copyFrom rmX2_copyFrom [.ref o, .ref o2] (wBoxes E o a b x y ++ wBoxes E o2 a2 b2 x2 y2) (wBoxes E o a b x2 (jCp y2 y 0 0 (80 + x2 4)) ++ wBoxes E o2 a2 b2 x2 y2) := by
  refine jMV_of (cc := cX2_copyFrom) (maxL := 2) (ret := none) [(0, .ref o), (1, .ref o2)] (by decide) rfl rfl (Nat.le_of_ble_eq_true rfl) (fun C => ?_)
  show jG mX2_copyFrom E C (jQv E C (wBoxes E o a b x2 (jCp y2 y 0 0 (80 + x2 4)) ++ wBoxes E o2 a2 b2 x2 y2)) 0 0 0 [(0, .ref o), (1, .ref o2)] [] (wBoxes E o a b x y ++ wBoxes E o2 a2 b2 x2 y2)
  refine j_aload_n 1 1 dX2_copyFrom_0 rfl rfl ?_
  refine j_get 3 0 1 4 in_X2_copyFrom_X2 dX2_copyFrom_1 rfl rfl rfl (by decide) rfl rfl ?_
  refine j_iconst 5 dX2_copyFrom_4 rfl ?_
  refine j_aload_n 0 6 dX2_copyFrom_5 rfl rfl ?_
  refine j_get 0 0 1 9 in_X2_copyFrom_X2 dX2_copyFrom_6 rfl rfl rfl (by decide) rfl rfl ?_
  refine j_iconst 10 dX2_copyFrom_9 rfl ?_
  refine j_iconst 11 dX2_copyFrom_10 rfl ?_
  refine j_copyi 4 1 14 [_, _, _, _, _, _] (List.mem_of_getElem? (i := 2) rfl) (List.mem_of_getElem? (i := 3) rfl) (List.mem_of_getElem? (i := 4) rfl) (List.mem_of_getElem? (i := 5) rfl) (by decide) dX2_copyFrom_11 rfl rfl rfl (by decide) (by omega) rfl ?_
  refine j_aload_n 1 15 dX2_copyFrom_14 rfl rfl ?_
  refine j_get 3 1 6 18 in_X2_copyFrom_X2 dX2_copyFrom_15 rfl rfl rfl (by decide) rfl rfl ?_
  refine j_iconst 19 dX2_copyFrom_18 rfl ?_
  refine j_aload_n 0 20 dX2_copyFrom_19 rfl rfl ?_
  refine j_get 0 1 6 23 in_X2_copyFrom_X2 dX2_copyFrom_20 rfl rfl rfl (by decide) rfl rfl ?_
  refine j_iconst 24 dX2_copyFrom_23 rfl ?_
  refine j_bipush 26 dX2_copyFrom_24 rfl (by decide) ?_
  refine j_aload_n 1 27 dX2_copyFrom_26 rfl rfl ?_
  refine j_get 3 0 1 30 in_X2_copyFrom_X2 dX2_copyFrom_27 rfl rfl rfl (by decide) rfl rfl ?_
  refine j_iconst 31 dX2_copyFrom_30 rfl ?_
  refine j_iald 4 32 dX2_copyFrom_31 rfl rfl (by decide) (by omega) ?_
  refine j_iadd 33 dX2_copyFrom_32 rfl ?_
  refine j_copyi 5 2 36 [_, _, _, _, _, _] (List.mem_of_getElem? (i := 2) rfl) (List.mem_of_getElem? (i := 3) rfl) (List.mem_of_getElem? (i := 4) rfl) (List.mem_of_getElem? (i := 5) rfl) (by decide) dX2_copyFrom_33 rfl rfl rfl (by decide) (by omega) rfl ?_
  refine j_eqv (w' := wBoxes E o a b x2 (jCp y2 y 0 0 (80 + x2 4)) ++ wBoxes E o2 a2 b2 x2 y2) (jEqR (jEqA (fun i hi => jCp_full (by omega)) (jEqR (jEqR (jEqR (jEqR jEq0)))))) ?_
  exact j_vret dX2_copyFrom_36 rfl (by rfl)
