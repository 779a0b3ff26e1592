/-! the reference, more of it -/
theorem kX8_set_X8_in : jKs mX8_set 32 yX8_in wsX8_in rmX8_in 3 := ⟨gX8_set_X8_in, ⟨_, _, _, _, rfl, by decide⟩, by decide +kernel, rfl, rfl, by decide⟩
theorem kX8_set_X8_changes : jKv mX8_set 89 yX8_changes wsX8_changes rmX8_changes 0 := ⟨gX8_set_X8_changes, ⟨_, _, _, _, rfl, by decide⟩, by decide +kernel, rfl, rfl, by decide⟩
set_option maxRecDepth 20000 in
theorem in_X8_set_X8 : ∀ x ∈ u_ws RX8 TX8 11, x ∈ wsX8_set := by decide +kernel
set_option maxRecDepth 100000 in
set_option maxHeartbeats 4000000 in
theorem c_X8_set (E : jE) (q : Nat → Nat) (F : Nat → Int → Int) (x : Nat → Int → Int) (w a : Int) (hn : 0 ≤ F 6 1 ∧ F 6 1 ≤ 4) (hx : sOK x) (hr : Rel x (F 0)) (wb : -2147483648 ≤ w ∧ w < 2147483648) (ab : -2147483648 ≤ a ∧ a < 2147483648) : jMI E yX8_set wsX8_set rmX8_set [.ref (q 0), .int (jI w), .int (jI a)] (wModel E q F) ((rSetM x F w a).1) (wModel E q (rSetM x F w a).2) := by
  refine jMI_of (cc := cX8_set) (maxL := 4) (ret := (some .int)) [(0, .ref (q 0)), (1, .int (jI w)), (2, .int (jI a))] (by decide) rfl rfl (Nat.le_of_ble_eq_true rfl) (fun C => ?_)
  show jG mX8_set E C (jQi E C ((rSetM x F w a).1) (wModel E q (rSetM x F w a).2)) 0 0 0 [(0, .ref (q 0)), (1, .int (jI w)), (2, .int (jI a))] [] (wModel E q F)
  have r9 : 0 ≤ x 9 0 ∧ x 9 0 ≤ 8 := hx 9
  have r0 : ∀ i, 0 ≤ x 0 i ∧ x 0 i < 404000 := hx 0
  have r1 : ∀ i, 0 ≤ x 1 i ∧ x 1 i ≤ 3 := hx 1
  have r2 : ∀ i, 0 ≤ x 2 i ∧ x 2 i ≤ 2 := hx 2
  have r3 : ∀ i, -1 ≤ x 3 i ∧ x 3 i ≤ 4 := hx 3
  have r4 : ∀ i, 0 ≤ x 4 i ∧ x 4 i < 404000 := hx 4
  have r5 : ∀ i, 0 ≤ x 5 i ∧ x 5 i ≤ 512 ∧ (i < 4 → x 5 i ≤ 20) := hx 5
  have r6 : ∀ i, 0 ≤ x 6 i ∧ x 6 i < 404000 := hx 6
  have hrr := Rel_RelR hr
  have c0 := Rel_cup0 hr
  have s4 : x 9 0 = F 0 4 := hr.2.2.1.1
  have r20 := r2 0
  have q1 : (0 ≤ w ∧ w ≤ 2 ∧ (if 0 ≤ w ∧ w ≤ 2 then (1 : Int) else 0) = 1) ∨ (¬ (0 ≤ w ∧ w ≤ 2) ∧ (if 0 ≤ w ∧ w ≤ 2 then (1 : Int) else 0) = 0) := by split <;> omega
  obtain ⟨b1, hb1⟩ : ∃ b1, b1 = setLo w := ⟨_, rfl⟩
  obtain ⟨b2, hb2⟩ : ∃ b2, b2 = setHi w := ⟨_, rfl⟩
  have sl : (w = 0 ∧ b1 = -20 ∧ b2 = 20) ∨ (w = 1 ∧ b1 = 0 ∧ b2 = 9) ∨ (w = 2 ∧ b1 = 1 ∧ b2 = 20) ∨ (w < 0 ∨ 2 < w) := by
    rw [hb1, hb2]
    unfold setLo setHi
    (repeat' split) <;> omega
  refine j_iload_n 1 1 dX8_set_0 rfl rfl ?_
  refine j_iconst 2 dX8_set_1 rfl ?_
  refine j_iconst 3 dX8_set_2 rfl ?_
  refine j_callSi [] 6 [_, _, _, _, _, _, _] (c_X8_in E _ _ _ (by omega) (by omega) (by omega)) rfl kX8_set_X8_in rfl rfl rfl rfl rfl (Nat.le_of_ble_eq_true rfl) (by decide) dX8_set_3 rfl ?_
  refine j_if_eq 47 9 dX8_set_6 rfl (by decide) (by omega) (fun h_6 => ?_) (fun h_6 => ?_)
  · skip
    have e : rSetM x F w a = (-1, F) := if_pos (by rw [← hb1, ← hb2]; omega)
    rw [e]
    refine j_iconst 48 dX8_set_47 rfl ?_
    exact j_iret dX8_set_48 rfl (by first | rfl | (show jI (x 7 w + 20) = jI (if w = 0 then x 7 w + 20 else x 7 w); rw [if_pos (by omega)]) | (show jI (x 7 w) = jI (if w = 0 then x 7 w + 20 else x 7 w); rw [if_neg (by omega)])) (by rfl)
  · skip
    have key44 : w = 0 ∨ w = 1 ∨ w = 2 → jG mX8_set E C (jQi E C ((rSetM x F w a).1) (wModel E q (rSetM x F w a).2)) 0 0 44 [(0, .ref (q 0)), (1, .int (jI w)), (2, .int (jI a))] [.int (jI (if b1 ≤ a ∧ a ≤ b2 then 1 else 0))] (wModel E q F) := by
      intro w3
      have qq : (b1 ≤ a ∧ a ≤ b2 ∧ (if b1 ≤ a ∧ a ≤ b2 then (1 : Int) else 0) = 1) ∨ (¬ (b1 ≤ a ∧ a ≤ b2) ∧ (if b1 ≤ a ∧ a ≤ b2 then (1 : Int) else 0) = 0) := by split <;> omega
      refine j_if_ne 49 47 dX8_set_44 rfl (by decide) (by omega) (fun h_44 => ?_) (fun h_44 => ?_)
      · skip
        have e : rSetM x F w a = (if w = 0 then x 7 w + 20 else x 7 w, jS (fCh F) 0 (jU (F 0) w a)) := if_neg (by rw [← hb1, ← hb2]; omega)
        rw [e]
        refine j_aload_n 0 50 dX8_set_49 rfl rfl ?_
        refine j_callVv 0 [0, 1, 2, 3, 4, 5, 6] 53 [_, _, _, _, _, _, _] (c_X8_changes E _ _ (by omega)) rfl kX8_set_X8_changes rfl rfl rfl rfl rfl rfl rfl (Nat.le_of_ble_eq_true rfl) (by decide) dX8_set_50 rfl ?_
        have sw : x 7 w = F 0 w := by
          rcases (show w = 0 ∨ w = 1 ∨ w = 2 by omega) with rfl | rfl | rfl
          · exact hr.1.1
          · exact hr.1.2.1
          · exact hr.1.2.2
        refine j_aload_n 0 54 dX8_set_53 rfl rfl ?_
        refine j_get 0 0 1 57 in_X8_set_X8 dX8_set_54 rfl rfl rfl (by decide) rfl rfl ?_
        refine j_iload_n 1 58 dX8_set_57 rfl rfl ?_
        refine j_iald 1 59 dX8_set_58 rfl rfl (by decide) (by omega) ?_
        change jG _ E C _ 0 0 59 _ (.int (jI (F 0 w)) :: _) _
        rw [← sw]
        refine j_istore_n 60 [_, _, _, _] dX8_set_59 rfl (by decide) rfl ?_
        refine j_aload_n 1 61 dX8_set_60 rfl rfl ?_
        refine j_get 0 0 1 64 in_X8_set_X8 dX8_set_61 rfl rfl rfl (by decide) rfl rfl ?_
        refine j_iload_n 2 65 dX8_set_64 rfl rfl ?_
        refine j_iload_n 3 66 dX8_set_65 rfl rfl ?_
        refine j_iast 1 67 [_, _, _, _, _, _, _] dX8_set_66 rfl rfl (by decide) (by omega) rfl ?_
        refine j_iload_n 2 68 dX8_set_67 rfl rfl ?_
        refine j_if_ne 78 71 dX8_set_68 rfl (by decide) (by omega) (fun h_68 => ?_) (fun h_68 => ?_)
        · skip
          refine j_iload_n 0 79 dX8_set_78 rfl rfl ?_
          exact j_iret dX8_set_79 rfl (by first | rfl | (show jI (x 7 w + 20) = jI (if w = 0 then x 7 w + 20 else x 7 w); rw [if_pos (by omega)]) | (show jI (x 7 w) = jI (if w = 0 then x 7 w + 20 else x 7 w); rw [if_neg (by omega)])) (by rfl)
        · skip
          refine j_iload_n 0 72 dX8_set_71 rfl rfl ?_
          refine j_bipush 74 dX8_set_72 rfl (by decide) ?_
          refine j_iadd 75 dX8_set_74 rfl ?_
          refine j_goto 79 dX8_set_75 (by decide) ?_
          exact j_iret dX8_set_79 rfl (by first | rfl | (show jI (x 7 w + 20) = jI (if w = 0 then x 7 w + 20 else x 7 w); rw [if_pos (by omega)]) | (show jI (x 7 w) = jI (if w = 0 then x 7 w + 20 else x 7 w); rw [if_neg (by omega)])) (by rfl)
      · skip
        have e : rSetM x F w a = (-1, F) := if_pos (by rw [← hb1, ← hb2]; omega)
        rw [e]
        refine j_iconst 48 dX8_set_47 rfl ?_
        exact j_iret dX8_set_48 rfl (by first | rfl | (show jI (x 7 w + 20) = jI (if w = 0 then x 7 w + 20 else x 7 w); rw [if_pos (by omega)]) | (show jI (x 7 w) = jI (if w = 0 then x 7 w + 20 else x 7 w); rw [if_neg (by omega)])) (by rfl)
    refine j_iload_n 2 10 dX8_set_9 rfl rfl ?_
    refine j_iload_n 1 11 dX8_set_10 rfl rfl ?_
    refine j_if_ne 19 14 dX8_set_11 rfl (by decide) (by omega) (fun h_11 => ?_) (fun h_11 => ?_)
    · skip
      refine j_iload_n 1 20 dX8_set_19 rfl rfl ?_
      refine j_iconst 21 dX8_set_20 rfl ?_
      refine j_icmp_ne 28 24 dX8_set_21 rfl (by decide) (by omega) (by omega) (fun h_21 => ?_) (fun h_21 => ?_)
      · skip
        refine j_iconst 29 dX8_set_28 rfl ?_
        refine j_iload_n 1 30 dX8_set_29 rfl rfl ?_
        refine j_iconst 31 dX8_set_30 rfl ?_
        refine j_icmp_ne 39 34 dX8_set_31 rfl (by decide) (by omega) (by omega) (fun h_31 => ?_) (fun h_31 => ?_)
        · skip
          refine j_bipush 41 dX8_set_39 rfl (by decide) ?_
          refine j_callSi [] 44 [_, _, _, _, _, _, _] (c_X8_in E _ _ _ (by omega) (by omega) (by omega)) rfl kX8_set_X8_in rfl rfl rfl rfl rfl (Nat.le_of_ble_eq_true rfl) (by decide) dX8_set_41 rfl ?_
          have k := key44 (by omega)
          first
            | (exact absurd h_31 (by omega))
            | (exact absurd h_20 (by omega))
            | (have e1 : b1 = -20 := by omega
               have e2 : b2 = 20 := by omega
               rw [e1, e2] at k; exact k)
            | (have e1 : b1 = 0 := by omega
               have e2 : b2 = 9 := by omega
               rw [e1, e2] at k; exact k)
            | (have e1 : b1 = 1 := by omega
               have e2 : b2 = 20 := by omega
               rw [e1, e2] at k; exact k)
        · skip
          refine j_bipush 36 dX8_set_34 rfl (by decide) ?_
          refine j_goto 41 dX8_set_36 (by decide) ?_
          refine j_callSi [] 44 [_, _, _, _, _, _, _] (c_X8_in E _ _ _ (by omega) (by omega) (by omega)) rfl kX8_set_X8_in rfl rfl rfl rfl rfl (Nat.le_of_ble_eq_true rfl) (by decide) dX8_set_41 rfl ?_
          have k := key44 (by omega)
          first
            | (exact absurd h_31 (by omega))
            | (exact absurd h_20 (by omega))
            | (have e1 : b1 = -20 := by omega
               have e2 : b2 = 20 := by omega
               rw [e1, e2] at k; exact k)
            | (have e1 : b1 = 0 := by omega
               have e2 : b2 = 9 := by omega
               rw [e1, e2] at k; exact k)
            | (have e1 : b1 = 1 := by omega
               have e2 : b2 = 20 := by omega
               rw [e1, e2] at k; exact k)
      · skip
        refine j_iconst 25 dX8_set_24 rfl ?_
        refine j_goto 29 dX8_set_25 (by decide) ?_
        refine j_iload_n 1 30 dX8_set_29 rfl rfl ?_
        refine j_iconst 31 dX8_set_30 rfl ?_
        refine j_icmp_ne 39 34 dX8_set_31 rfl (by decide) (by omega) (by omega) (fun h_31 => ?_) (fun h_31 => ?_)
        · skip
          refine j_bipush 41 dX8_set_39 rfl (by decide) ?_
          refine j_callSi [] 44 [_, _, _, _, _, _, _] (c_X8_in E _ _ _ (by omega) (by omega) (by omega)) rfl kX8_set_X8_in rfl rfl rfl rfl rfl (Nat.le_of_ble_eq_true rfl) (by decide) dX8_set_41 rfl ?_
          have k := key44 (by omega)
          first
            | (exact absurd h_31 (by omega))
            | (exact absurd h_20 (by omega))
            | (have e1 : b1 = -20 := by omega
               have e2 : b2 = 20 := by omega
               rw [e1, e2] at k; exact k)
            | (have e1 : b1 = 0 := by omega
               have e2 : b2 = 9 := by omega
               rw [e1, e2] at k; exact k)
            | (have e1 : b1 = 1 := by omega
               have e2 : b2 = 20 := by omega
               rw [e1, e2] at k; exact k)
        · skip
          refine j_bipush 36 dX8_set_34 rfl (by decide) ?_
          refine j_goto 41 dX8_set_36 (by decide) ?_
          refine j_callSi [] 44 [_, _, _, _, _, _, _] (c_X8_in E _ _ _ (by omega) (by omega) (by omega)) rfl kX8_set_X8_in rfl rfl rfl rfl rfl (Nat.le_of_ble_eq_true rfl) (by decide) dX8_set_41 rfl ?_
          have k := key44 (by omega)
          first
            | (exact absurd h_31 (by omega))
            | (exact absurd h_20 (by omega))
            | (have e1 : b1 = -20 := by omega
               have e2 : b2 = 20 := by omega
               rw [e1, e2] at k; exact k)
            | (have e1 : b1 = 0 := by omega
               have e2 : b2 = 9 := by omega
               rw [e1, e2] at k; exact k)
            | (have e1 : b1 = 1 := by omega
               have e2 : b2 = 20 := by omega
               rw [e1, e2] at k; exact k)
    · skip
      refine j_bipush 16 dX8_set_14 rfl (by decide) ?_
      refine j_goto 29 dX8_set_16 (by decide) ?_
      refine j_iload_n 1 30 dX8_set_29 rfl rfl ?_
      refine j_iconst 31 dX8_set_30 rfl ?_
      refine j_icmp_ne 39 34 dX8_set_31 rfl (by decide) (by omega) (by omega) (fun h_31 => ?_) (fun h_31 => ?_)
      · skip
        refine j_bipush 41 dX8_set_39 rfl (by decide) ?_
        refine j_callSi [] 44 [_, _, _, _, _, _, _] (c_X8_in E _ _ _ (by omega) (by omega) (by omega)) rfl kX8_set_X8_in rfl rfl rfl rfl rfl (Nat.le_of_ble_eq_true rfl) (by decide) dX8_set_41 rfl ?_
        have k := key44 (by omega)
        first
          | (exact absurd h_31 (by omega))
          | (exact absurd h_20 (by omega))
          | (have e1 : b1 = -20 := by omega
             have e2 : b2 = 20 := by omega
             rw [e1, e2] at k; exact k)
          | (have e1 : b1 = 0 := by omega
             have e2 : b2 = 9 := by omega
             rw [e1, e2] at k; exact k)
          | (have e1 : b1 = 1 := by omega
             have e2 : b2 = 20 := by omega
             rw [e1, e2] at k; exact k)
      · skip
        refine j_bipush 36 dX8_set_34 rfl (by decide) ?_
        refine j_goto 41 dX8_set_36 (by decide) ?_
        refine j_callSi [] 44 [_, _, _, _, _, _, _] (c_X8_in E _ _ _ (by omega) (by omega) (by omega)) rfl kX8_set_X8_in rfl rfl rfl rfl rfl (Nat.le_of_ble_eq_true rfl) (by decide) dX8_set_41 rfl ?_
        have k := key44 (by omega)
        first
          | (exact absurd h_31 (by omega))
          | (exact absurd h_20 (by omega))
          | (have e1 : b1 = -20 := by omega
             have e2 : b2 = 20 := by omega
             rw [e1, e2] at k; exact k)
          | (have e1 : b1 = 0 := by omega
             have e2 : b2 = 9 := by omega
             rw [e1, e2] at k; exact k)
          | (have e1 : b1 = 1 := by omega
             have e2 : b2 = 20 := by omega
             rw [e1, e2] at k; exact k)
theorem kX8_append_X8_in : jKs mX8_append 32 yX8_in wsX8_in rmX8_in 3 := ⟨gX8_append_X8_in, ⟨_, _, _, _, rfl, by decide⟩, by decide +kernel, rfl, rfl, by decide⟩
set_option maxRecDepth 20000 in
theorem in_X8_append_X8 : ∀ x ∈ u_ws RX8 TX8 11, x ∈ wsX8_append := by decide +kernel
set_option maxRecDepth 100000 in
set_option maxHeartbeats 4000000 in
theorem c_X8_append (E : jE) (q : Nat → Nat) (F : Nat → Int → Int) (c : Int) (h2 : 0 ≤ F 6 2 ∧ F 6 2 ≤ 60) (cb : -2147483648 ≤ c ∧ c < 2147483648) : jMI E yX8_append wsX8_append rmX8_append [.ref (q 0), .int (jI c)] (wModel E q F) ((rAppend F c).1) (wModel E q (rAppend F c).2) := by
  refine jMI_of (cc := cX8_append) (maxL := 2) (ret := (some .int)) [(0, .ref (q 0)), (1, .int (jI c))] (by decide) rfl rfl (Nat.le_of_ble_eq_true rfl) (fun C => ?_)
  show jG mX8_append E C (jQi E C ((rAppend F c).1) (wModel E q (rAppend F c).2)) 0 0 0 [(0, .ref (q 0)), (1, .int (jI c))] [] (wModel E q F)
  have q1 : (33 ≤ c ∧ c ≤ 126 ∧ (if 33 ≤ c ∧ c ≤ 126 then (1 : Int) else 0) = 1) ∨ (¬ (33 ≤ c ∧ c ≤ 126) ∧ (if 33 ≤ c ∧ c ≤ 126 then (1 : Int) else 0) = 0) := by split <;> omega
  refine j_iload_n 1 1 dX8_append_0 rfl rfl ?_
  refine j_bipush 3 dX8_append_1 rfl (by decide) ?_
  refine j_bipush 5 dX8_append_3 rfl (by decide) ?_
  refine j_callSi [] 8 [_, _, _, _, _, _, _] (c_X8_in E _ _ _ (by omega) (by omega) (by omega)) rfl kX8_append_X8_in rfl rfl rfl rfl rfl (Nat.le_of_ble_eq_true rfl) (by decide) dX8_append_5 rfl ?_
  refine j_if_ne 13 11 dX8_append_8 rfl (by decide) (by omega) (fun h_8 => ?_) (fun h_8 => ?_)
  · skip
    refine j_aload_n 0 14 dX8_append_13 rfl rfl ?_
    refine j_get 0 7 1 17 in_X8_append_X8 dX8_append_14 rfl rfl rfl (by decide) rfl rfl ?_
    refine j_bipush 19 dX8_append_17 rfl (by decide) ?_
    refine j_icmp_ne 25 22 dX8_append_19 rfl (by decide) (by omega) (by omega) (fun h_19 => ?_) (fun h_19 => ?_)
    · skip
      have e : rAppend F c = (F 6 2 + 1, jS (jS F 4 (jU (F 4) (F 6 2) c)) 6 (jU (F 6) 2 (F 6 2 + 1))) := by unfold rAppend; rw [if_neg (by omega), if_neg (by omega)]
      rw [e]
      refine j_aload_n 0 26 dX8_append_25 rfl rfl ?_
      refine j_get 0 6 2 29 in_X8_append_X8 dX8_append_26 rfl rfl rfl (by decide) rfl rfl ?_
      refine j_aload_n 0 30 dX8_append_29 rfl rfl ?_
      refine j_get 0 7 1 33 in_X8_append_X8 dX8_append_30 rfl rfl rfl (by decide) rfl rfl ?_
      refine j_iload_n 1 34 dX8_append_33 rfl rfl ?_
      refine j_iast 5 35 [_, _, _, _, _, _, _] dX8_append_34 rfl rfl (by decide) (by omega) rfl ?_
      refine j_aload_n 0 36 dX8_append_35 rfl rfl ?_
      refine j_dup 37 dX8_append_36 rfl rfl ?_
      refine j_get 0 7 1 40 in_X8_append_X8 dX8_append_37 rfl rfl rfl (by decide) rfl rfl ?_
      refine j_iconst 41 dX8_append_40 rfl ?_
      refine j_iadd 42 dX8_append_41 rfl ?_
      refine j_put 0 7 1 45 [(_, .inr (_, [_, _, _, _, _, _, _, _, _, _, _])), _, _, _, _, _, _] tyX8 tyX8_ok nmX8 in_X8_append_X8 dX8_append_42 rfl rfl rfl (by decide) rfl rfl rfl rfl rfl (Nat.le_of_ble_eq_true rfl) rfl ?_
      refine j_aload_n 0 46 dX8_append_45 rfl rfl ?_
      refine j_get 0 7 1 49 in_X8_append_X8 dX8_append_46 rfl rfl rfl (by decide) rfl rfl ?_
      exact j_iret dX8_append_49 rfl (by first | rfl | (exfalso; omega)) (by rfl)
    · skip
      have e : rAppend F c = (-3, F) := by unfold rAppend; rw [if_neg (by omega), if_pos (by omega)]
      rw [e]
      refine j_bipush 24 dX8_append_22 rfl (by decide) ?_
      exact j_iret dX8_append_24 rfl (by first | rfl | (exfalso; omega)) (by rfl)
  · skip
    have e : rAppend F c = (-1, F) := if_pos (by omega)
    rw [e]
    refine j_iconst 12 dX8_append_11 rfl ?_
    exact j_iret dX8_append_12 rfl (by first | rfl | (exfalso; omega)) (by rfl)
set_option maxRecDepth 20000 in
theorem in_X8_clear_X8 : ∀ x ∈ u_ws RX8 TX8 11, x ∈ wsX8_clear := by decide +kernel
set_option maxRecDepth 100000 in
set_option maxHeartbeats 4000000 in
theorem c_X8_clear (E : jE) (q : Nat → Nat) (F : Nat → Int → Int)   : jMI E yX8_clear wsX8_clear rmX8_clear [.ref (q 0)] (wModel E q F) ((((F 6 2, jS F 6 (jU (F 6) 2 0)) : Int × (Nat → Int → Int))).1) (wModel E q (((F 6 2, jS F 6 (jU (F 6) 2 0)) : Int × (Nat → Int → Int))).2) := by
  refine jMI_of (cc := cX8_clear) (maxL := 2) (ret := (some .int)) [(0, .ref (q 0))] (by decide) rfl rfl (Nat.le_of_ble_eq_true rfl) (fun C => ?_)
  show jG mX8_clear E C (jQi E C ((((F 6 2, jS F 6 (jU (F 6) 2 0)) : Int × (Nat → Int → Int))).1) (wModel E q (((F 6 2, jS F 6 (jU (F 6) 2 0)) : Int × (Nat → Int → Int))).2)) 0 0 0 [(0, .ref (q 0))] [] (wModel E q F)
  refine j_aload_n 0 1 dX8_clear_0 rfl rfl ?_
  refine j_get 0 7 1 4 in_X8_clear_X8 dX8_clear_1 rfl rfl rfl (by decide) rfl rfl ?_
  refine j_istore_n 5 [_, _] dX8_clear_4 rfl (by decide) rfl ?_
  refine j_aload_n 1 6 dX8_clear_5 rfl rfl ?_
  refine j_iconst 7 dX8_clear_6 rfl ?_
  refine j_put 0 7 1 10 [(_, .inr (_, [_, _, _, _, _, _, _, _, _, _, _])), _, _, _, _, _, _] tyX8 tyX8_ok nmX8 in_X8_clear_X8 dX8_clear_7 rfl rfl rfl (by decide) rfl rfl rfl rfl rfl (Nat.le_of_ble_eq_true rfl) rfl ?_
  refine j_iload_n 0 11 dX8_clear_10 rfl rfl ?_
  exact j_iret dX8_clear_11 rfl (by first | rfl | (exfalso; omega)) (by rfl)
set_option maxRecDepth 20000 in
theorem in_X8_undo_X8 : ∀ x ∈ u_ws RX8 TX8 11, x ∈ wsX8_undo := by decide +kernel
set_option maxRecDepth 100000 in
set_option maxHeartbeats 4000000 in
theorem c_X8_undo (E : jE) (q : Nat → Nat) (F : Nat → Int → Int)  (hn : 0 ≤ F 6 1 ∧ F 6 1 ≤ 4) : jMI E yX8_undo wsX8_undo rmX8_undo [.ref (q 0)] (wModel E q F) ((rUndo F).1) (wModel E q (rUndo F).2) := by
  refine jMI_of (cc := cX8_undo) (maxL := 2) (ret := (some .int)) [(0, .ref (q 0))] (by decide) rfl rfl (Nat.le_of_ble_eq_true rfl) (fun C => ?_)
  show jG mX8_undo E C (jQi E C ((rUndo F).1) (wModel E q (rUndo F).2)) 0 0 0 [(0, .ref (q 0))] [] (wModel E q F)
  refine j_aload_n 0 1 dX8_undo_0 rfl rfl ?_
  refine j_get 0 5 1 4 in_X8_undo_X8 dX8_undo_1 rfl rfl rfl (by decide) rfl rfl ?_
  refine j_if_ne 10 7 dX8_undo_4 rfl (by decide) (by omega) (fun h_4 => ?_) (fun h_4 => ?_)
  · skip
    have e : rUndo F = (F 6 1 - 1, jS (jS F 6 (jU (F 6) 1 (F 6 1 - 1))) 0 (jCp (F 1) (F 0) (1200 * (F 6 1 - 1)) 0 1200)) := if_neg (by omega)
    rw [e]
    refine j_aload_n 0 11 dX8_undo_10 rfl rfl ?_
    refine j_dup 12 dX8_undo_11 rfl rfl ?_
    refine j_get 0 5 1 15 in_X8_undo_X8 dX8_undo_12 rfl rfl rfl (by decide) rfl rfl ?_
    refine j_iconst 16 dX8_undo_15 rfl ?_
    refine j_isub 17 dX8_undo_16 rfl ?_
    refine j_put 0 5 1 20 [(_, .inr (_, [_, _, _, _, _, _, _, _, _, _, _])), _, _, _, _, _, _] tyX8 tyX8_ok nmX8 in_X8_undo_X8 dX8_undo_17 rfl rfl rfl (by decide) rfl rfl rfl rfl rfl (Nat.le_of_ble_eq_true rfl) rfl ?_
    refine j_iconst 21 dX8_undo_20 rfl ?_
    refine j_istore_n 22 [_, _] dX8_undo_21 rfl (by decide) rfl ?_
    have key22 : ∀ (fu i : Nat), 1200 < i + fu → (i : Int) ≤ 1200 → jG mX8_undo E C (jQi E C (((F 6 1 - 1, jS (jS F 6 (jU (F 6) 1 (F 6 1 - 1))) 0 (jCp (F 1) (F 0) (1200 * (F 6 1 - 1)) 0 1200)) : Int × (Nat → Int → Int)).1) (wModel E q ((F 6 1 - 1, jS (jS F 6 (jU (F 6) 1 (F 6 1 - 1))) 0 (jCp (F 1) (F 0) (1200 * (F 6 1 - 1)) 0 1200)) : Int × (Nat → Int → Int)).2)) 0 0 22 [(0, .ref (q 0)), (1, .int (jI (i : Int)))] [] (wModel E q (jS (jS F 6 (jU (F 6) 1 (F 6 1 - 1))) 0 (jCp (F 1) (F 0) (1200 * (F 6 1 - 1)) 0 (i : Int)))) := by
      intro fu
      induction fu with
      | zero => intro i h1 h2; exact absurd h1 (by omega)
      | succ fu ih =>
        intro i h1 h2
        refine j_iload_n 1 23 dX8_undo_22 rfl rfl ?_
        refine j_sipush 26 dX8_undo_23 rfl (by decide) ?_
        refine j_icmp_ge 56 29 dX8_undo_26 rfl (by decide) (by omega) (by omega) (fun h_26 => ?_) (fun h_26 => ?_)
        · skip
          obtain rfl : i = 1200 := by omega
          refine j_aload_n 0 57 dX8_undo_56 rfl rfl ?_
          refine j_get 0 5 1 60 in_X8_undo_X8 dX8_undo_57 rfl rfl rfl (by decide) rfl rfl ?_
          exact j_iret dX8_undo_60 rfl (by first | rfl | (exfalso; omega)) (by rfl)
        · skip
          refine j_aload_n 0 30 dX8_undo_29 rfl rfl ?_
          refine j_get 0 0 2 33 in_X8_undo_X8 dX8_undo_30 rfl rfl rfl (by decide) rfl rfl ?_
          refine j_iload_n 1 34 dX8_undo_33 rfl rfl ?_
          refine j_aload_n 0 35 dX8_undo_34 rfl rfl ?_
          refine j_get 0 1 3 38 in_X8_undo_X8 dX8_undo_35 rfl rfl rfl (by decide) rfl rfl ?_
          refine j_sipush 41 dX8_undo_38 rfl (by decide) ?_
          refine j_aload_n 0 42 dX8_undo_41 rfl rfl ?_
          refine j_get 0 5 1 45 in_X8_undo_X8 dX8_undo_42 rfl rfl rfl (by decide) rfl rfl ?_
          change jG _ E C _ 0 0 45 _ (.int (jI (F 6 1 - 1)) :: .int (jI 1200) :: _) _
          refine j_imul 46 dX8_undo_45 rfl ?_
          refine j_iload_n 1 47 dX8_undo_46 rfl rfl ?_
          refine j_iadd 48 dX8_undo_47 rfl ?_
          refine j_iald 2 49 dX8_undo_48 rfl rfl (by decide) (by omega) ?_
          refine j_iast 1 50 [_, _, _, _, _, _, _] dX8_undo_49 rfl rfl (by decide) (by omega) rfl ?_
          refine j_iinc 1 53 [_, _] dX8_undo_50 rfl rfl (by decide) rfl ?_
          refine j_goto 22 dX8_undo_53 (by decide) ?_
          refine j_perm [1, 0] rfl ?_
          refine j_eqw (w' := wModel E q (jS (jS F 6 (jU (F 6) 1 (F 6 1 - 1))) 0 (jCp (F 1) (F 0) (1200 * (F 6 1 - 1)) 0 ((i + 1 : Nat) : Int)))) (congrArg (fun g => wModel E q (jS (jS F 6 (jU (F 6) 1 (F 6 1 - 1))) 0 g)) (jCp_d0 (f := F 1) (g := F 0) (sp := 1200 * (F 6 1 - 1)) (i := (i : Int)) (by omega))) ?_
          exact ih (i + 1) (by omega) (by omega)
    refine j_perm [1, 0] rfl ?_
    refine j_eqw (w' := wModel E q (jS (jS F 6 (jU (F 6) 1 (F 6 1 - 1))) 0 (jCp (F 1) (F 0) (1200 * (F 6 1 - 1)) 0 0))) (congrArg (fun g => wModel E q (jS (jS F 6 (jU (F 6) 1 (F 6 1 - 1))) 0 g)) (jCp_00 (F 1) (F 0) (1200 * (F 6 1 - 1)) 0).symm) ?_
    exact key22 1201 0 (by omega) (by omega)
  · skip
    have e : rUndo F = (-2, F) := if_pos (by omega)
    rw [e]
    refine j_bipush 9 dX8_undo_7 rfl (by decide) ?_
    exact j_iret dX8_undo_9 rfl (by first | rfl | (exfalso; omega)) (by rfl)
set_option maxRecDepth 20000 in
theorem in_X8_save_X8 : ∀ x ∈ u_ws RX8 TX8 11, x ∈ wsX8_save := by decide +kernel
theorem kX8_save_X8_onBelt : jKv mX8_save 162 yX8_onBelt wsX8_onBelt rmX8_onBelt 0 := ⟨gX8_save_X8_onBelt, ⟨_, _, _, _, rfl, by decide⟩, by decide +kernel, rfl, rfl, by decide⟩
set_option maxRecDepth 100000 in
set_option maxHeartbeats 4000000 in
theorem c_X8_save (E : jE) (q : Nat → Nat) (F : Nat → Int → Int) (x : Nat → Int → Int)  (hn : 0 ≤ F 6 1 ∧ F 6 1 ≤ 4) (hx : sOK x) (hr : Rel x (F 0))  : jMI E yX8_save wsX8_save rmX8_save [.ref (q 0)] (wModel E q F) ((((jSum (x 2) 12, jS (jS F 6 (jU (F 6) 0 1)) 2 (jCp (F 0) (F 2) 0 0 1200)) : Int × (Nat → Int → Int))).1) (wModel E q (((jSum (x 2) 12, jS (jS F 6 (jU (F 6) 0 1)) 2 (jCp (F 0) (F 2) 0 0 1200)) : Int × (Nat → Int → Int))).2) := by
  refine jMI_of (cc := cX8_save) (maxL := 2) (ret := (some .int)) [(0, .ref (q 0))] (by decide) rfl rfl (Nat.le_of_ble_eq_true rfl) (fun C => ?_)
  show jG mX8_save E C (jQi E C ((((jSum (x 2) 12, jS (jS F 6 (jU (F 6) 0 1)) 2 (jCp (F 0) (F 2) 0 0 1200)) : Int × (Nat → Int → Int))).1) (wModel E q (((jSum (x 2) 12, jS (jS F 6 (jU (F 6) 0 1)) 2 (jCp (F 0) (F 2) 0 0 1200)) : Int × (Nat → Int → Int))).2)) 0 0 0 [(0, .ref (q 0))] [] (wModel E q F)
  have r9 : 0 ≤ x 9 0 ∧ x 9 0 ≤ 8 := hx 9
  have r0 : ∀ i, 0 ≤ x 0 i ∧ x 0 i < 404000 := hx 0
  have r1 : ∀ i, 0 ≤ x 1 i ∧ x 1 i ≤ 3 := hx 1
  have r2 : ∀ i, 0 ≤ x 2 i ∧ x 2 i ≤ 2 := hx 2
  have r3 : ∀ i, -1 ≤ x 3 i ∧ x 3 i ≤ 4 := hx 3
  have r4 : ∀ i, 0 ≤ x 4 i ∧ x 4 i < 404000 := hx 4
  have r5 : ∀ i, 0 ≤ x 5 i ∧ x 5 i ≤ 512 ∧ (i < 4 → x 5 i ≤ 20) := hx 5
  have r6 : ∀ i, 0 ≤ x 6 i ∧ x 6 i < 404000 := hx 6
  have hrr := Rel_RelR hr
  have c0 := Rel_cup0 hr
  have s4 : x 9 0 = F 0 4 := hr.2.2.1.1
  have r20 := r2 0
  refine j_aload_n 0 1 dX8_save_0 rfl rfl ?_
  refine j_iconst 2 dX8_save_1 rfl ?_
  refine j_put 0 4 1 5 [(_, .inr (_, [_, _, _, _, _, _, _, _, _, _, _])), _, _, _, _, _, _] tyX8 tyX8_ok nmX8 in_X8_save_X8 dX8_save_2 rfl rfl rfl (by decide) rfl rfl rfl (jB_nar2 (by omega)) (jB_fit (by omega)) (Nat.le_of_ble_eq_true rfl) rfl ?_
  refine j_iconst 6 dX8_save_5 rfl ?_
  refine j_istore_n 7 [_, _] dX8_save_6 rfl (by decide) rfl ?_
  have key7 : ∀ (fu i : Nat), 1200 < i + fu → (i : Int) ≤ 1200 → jG mX8_save E C (jQi E C ((((jSum (x 2) 12, jS (jS F 6 (jU (F 6) 0 1)) 2 (jCp (F 0) (F 2) 0 0 1200)) : Int × (Nat → Int → Int))).1) (wModel E q (((jSum (x 2) 12, jS (jS F 6 (jU (F 6) 0 1)) 2 (jCp (F 0) (F 2) 0 0 1200)) : Int × (Nat → Int → Int))).2)) 0 0 7 [(0, .ref (q 0)), (1, .int (jI (i : Int)))] [] (wModel E q (jS (jS F 6 (jU (F 6) 0 1)) 2 (jCp (F 0) (F 2) 0 0 (i : Int)))) := by
    intro fu
    induction fu with
    | zero => intro i h1 h2; exact absurd h1 (by omega)
    | succ fu ih =>
      intro i h1 h2
      refine j_iload_n 1 8 dX8_save_7 rfl rfl ?_
      refine j_sipush 11 dX8_save_8 rfl (by decide) ?_
      refine j_icmp_ge 32 14 dX8_save_11 rfl (by decide) (by omega) (by omega) (fun h_11 => ?_) (fun h_11 => ?_)
      · skip
        obtain rfl : i = 1200 := by omega
        refine j_aload_n 0 33 dX8_save_32 rfl rfl ?_
        refine j_callVi 0 [0, 1] 36 [_, _, _, _, _, _, _] (c_X8_onBelt E _ _ _ (F 0) x (by exact hx) (by exact hr)) rfl kX8_save_X8_onBelt rfl rfl rfl rfl rfl rfl rfl (Nat.le_of_ble_eq_true rfl) (by decide) dX8_save_33 rfl ?_
        exact j_iret dX8_save_36 rfl (by first | rfl | (exfalso; omega)) (by rfl)
      · skip
        refine j_aload_n 0 15 dX8_save_14 rfl rfl ?_
        refine j_get 0 2 2 18 in_X8_save_X8 dX8_save_15 rfl rfl rfl (by decide) rfl rfl ?_
        refine j_iload_n 1 19 dX8_save_18 rfl rfl ?_
        refine j_aload_n 0 20 dX8_save_19 rfl rfl ?_
        refine j_get 0 0 3 23 in_X8_save_X8 dX8_save_20 rfl rfl rfl (by decide) rfl rfl ?_
        refine j_iload_n 1 24 dX8_save_23 rfl rfl ?_
        refine j_iald 1 25 dX8_save_24 rfl rfl (by decide) (by omega) ?_
        refine j_iast 3 26 [_, _, _, _, _, _, _] dX8_save_25 rfl rfl (by decide) (by omega) rfl ?_
        refine j_iinc 1 29 [_, _] dX8_save_26 rfl rfl (by decide) rfl ?_
        refine j_goto 7 dX8_save_29 (by decide) ?_
        refine j_perm [1, 0] rfl ?_
        refine j_eqw (w' := wModel E q (jS (jS F 6 (jU (F 6) 0 1)) 2 (jCp (F 0) (F 2) 0 0 ((i + 1 : Nat) : Int)))) (congrArg (fun g => wModel E q (jS (jS F 6 (jU (F 6) 0 1)) 2 g)) (jCp_step (f := F 0) (g := F 2) (i := (i : Int)) (by omega))) ?_
        exact ih (i + 1) (by omega) (by omega)
  refine j_perm [1, 0] rfl ?_
  refine j_eqw (w' := wModel E q (jS (jS F 6 (jU (F 6) 0 1)) 2 (jCp (F 0) (F 2) 0 0 0))) (congrArg (fun g => wModel E q (jS (jS F 6 (jU (F 6) 0 1)) 2 g)) (jCp_00 (F 0) (F 2) 0 0).symm) ?_
  exact key7 1201 0 (by omega) (by omega)
set_option maxRecDepth 20000 in
theorem in_X8_restore_X8 : ∀ x ∈ u_ws RX8 TX8 11, x ∈ wsX8_restore := by decide +kernel
theorem kX8_restore_X8_changes : jKv mX8_restore 89 yX8_changes wsX8_changes rmX8_changes 0 := ⟨gX8_restore_X8_changes, ⟨_, _, _, _, rfl, by decide⟩, by decide +kernel, rfl, rfl, by decide⟩
theorem kX8_restore_X8_onBelt : jKv mX8_restore 162 yX8_onBelt wsX8_onBelt rmX8_onBelt 0 := ⟨gX8_restore_X8_onBelt, ⟨_, _, _, _, rfl, by decide⟩, by decide +kernel, rfl, rfl, by decide⟩
set_option maxRecDepth 100000 in
set_option maxHeartbeats 4000000 in
theorem c_X8_restore (E : jE) (q : Nat → Nat) (F : Nat → Int → Int) (y : Nat → Int → Int) (hn : 0 ≤ F 6 1 ∧ F 6 1 ≤ 4) (hy : sOK y) (h01 : F 6 0 = 0 ∨ F 6 0 = 1) (hry : F 6 0 = 1 → Rel y (jCp (F 2) (F 0) 0 0 1200)) : jMI E yX8_restore wsX8_restore rmX8_restore [.ref (q 0)] (wModel E q F) ((rRest y F).1) (wModel E q (rRest y F).2) := by
  refine jMI_of (cc := cX8_restore) (maxL := 2) (ret := (some .int)) [(0, .ref (q 0))] (by decide) rfl rfl (Nat.le_of_ble_eq_true rfl) (fun C => ?_)
  show jG mX8_restore E C (jQi E C ((rRest y F).1) (wModel E q (rRest y F).2)) 0 0 0 [(0, .ref (q 0))] [] (wModel E q F)
  refine j_aload_n 0 1 dX8_restore_0 rfl rfl ?_
  refine j_get 0 4 1 4 in_X8_restore_X8 dX8_restore_1 rfl rfl rfl (by decide) rfl rfl ?_
  refine j_if_ne 10 7 dX8_restore_4 rfl (by decide) (by omega) (fun h_4 => ?_) (fun h_4 => ?_)
  · skip
    have e : rRest y F = (jSum (y 2) 12, jS (fCh F) 0 (jCp (F 2) (F 0) 0 0 1200)) := if_neg (by omega)
    rw [e]
    refine j_aload_n 0 11 dX8_restore_10 rfl rfl ?_
    refine j_callVv 0 [0, 1, 2, 3, 4, 5, 6] 14 [_, _, _, _, _, _, _] (c_X8_changes E _ _ (by omega)) rfl kX8_restore_X8_changes rfl rfl rfl rfl rfl rfl rfl (Nat.le_of_ble_eq_true rfl) (by decide) dX8_restore_11 rfl ?_
    refine j_iconst 15 dX8_restore_14 rfl ?_
    refine j_istore_n 16 [_, _] dX8_restore_15 rfl (by decide) rfl ?_
    have key16 : ∀ (fu i : Nat), 1200 < i + fu → (i : Int) ≤ 1200 → jG mX8_restore E C (jQi E C (((jSum (y 2) 12, jS (fCh F) 0 (jCp (F 2) (F 0) 0 0 1200)) : Int × (Nat → Int → Int)).1) (wModel E q ((jSum (y 2) 12, jS (fCh F) 0 (jCp (F 2) (F 0) 0 0 1200)) : Int × (Nat → Int → Int)).2)) 0 0 16 [(0, .ref (q 0)), (1, .int (jI (i : Int)))] [] (wModel E q (jS (fCh F) 0 (jCp (F 2) (F 0) 0 0 (i : Int)))) := by
      intro fu
      induction fu with
      | zero => intro i h1 h2; exact absurd h1 (by omega)
      | succ fu ih =>
        intro i h1 h2
        refine j_iload_n 1 17 dX8_restore_16 rfl rfl ?_
        refine j_sipush 20 dX8_restore_17 rfl (by decide) ?_
        refine j_icmp_ge 41 23 dX8_restore_20 rfl (by decide) (by omega) (by omega) (fun h_20 => ?_) (fun h_20 => ?_)
        · skip
          obtain rfl : i = 1200 := by omega
          refine j_aload_n 0 42 dX8_restore_41 rfl rfl ?_
          refine j_callVi 0 [0, 1] 45 [_, _, _, _, _, _, _] (c_X8_onBelt E _ _ _ (jCp (F 2) (F 0) 0 0 1200) y (by exact hy) (by exact hry (by omega))) rfl kX8_restore_X8_onBelt rfl rfl rfl rfl rfl rfl rfl (Nat.le_of_ble_eq_true rfl) (by decide) dX8_restore_42 rfl ?_
          exact j_iret dX8_restore_45 rfl (by first | rfl | (exfalso; omega)) (by rfl)
        · skip
          refine j_aload_n 0 24 dX8_restore_23 rfl rfl ?_
          refine j_get 0 0 2 27 in_X8_restore_X8 dX8_restore_24 rfl rfl rfl (by decide) rfl rfl ?_
          refine j_iload_n 1 28 dX8_restore_27 rfl rfl ?_
          refine j_aload_n 0 29 dX8_restore_28 rfl rfl ?_
          refine j_get 0 2 3 32 in_X8_restore_X8 dX8_restore_29 rfl rfl rfl (by decide) rfl rfl ?_
          refine j_iload_n 1 33 dX8_restore_32 rfl rfl ?_
          refine j_iald 3 34 dX8_restore_33 rfl rfl (by decide) (by omega) ?_
          refine j_iast 1 35 [_, _, _, _, _, _, _] dX8_restore_34 rfl rfl (by decide) (by omega) rfl ?_
          refine j_iinc 1 38 [_, _] dX8_restore_35 rfl rfl (by decide) rfl ?_
          refine j_goto 16 dX8_restore_38 (by decide) ?_
          refine j_perm [1, 0] rfl ?_
          refine j_eqw (w' := wModel E q (jS (fCh F) 0 (jCp (F 2) (F 0) 0 0 ((i + 1 : Nat) : Int)))) (congrArg (fun g => wModel E q (jS (fCh F) 0 g)) (jCp_step (f := F 2) (g := F 0) (i := (i : Int)) (by omega))) ?_
          exact ih (i + 1) (by omega) (by omega)
    refine j_perm [1, 0] rfl ?_
    refine j_eqw (w' := wModel E q (jS (fCh F) 0 (jCp (F 2) (F 0) 0 0 0))) (congrArg (fun g => wModel E q (jS (fCh F) 0 g)) (jCp_00 (F 2) (F 0) 0 0).symm) ?_
    exact key16 1201 0 (by omega) (by omega)
  · skip
    have e : rRest y F = (-2, F) := if_pos (by omega)
    rw [e]
    refine j_bipush 9 dX8_restore_7 rfl (by decide) ?_
    exact j_iret dX8_restore_9 rfl (by first | rfl | (exfalso; omega)) (by rfl)
set_option maxRecDepth 20000 in
theorem in_X8_count_X8 : ∀ x ∈ u_ws RX8 TX8 11, x ∈ wsX8_count := by decide +kernel
theorem kX8_count_X8_onBelt : jKv mX8_count 162 yX8_onBelt wsX8_onBelt rmX8_onBelt 0 := ⟨gX8_count_X8_onBelt, ⟨_, _, _, _, rfl, by decide⟩, by decide +kernel, rfl, rfl, by decide⟩
theorem kX8_count_X8_doublesOnBelt : jKv mX8_count 165 yX8_doublesOnBelt wsX8_doublesOnBelt rmX8_doublesOnBelt 0 := ⟨gX8_count_X8_doublesOnBelt, ⟨_, _, _, _, rfl, by decide⟩, by decide +kernel, rfl, rfl, by decide⟩
theorem kX8_count_X8_inBoxes : jKv mX8_count 168 yX8_inBoxes wsX8_inBoxes rmX8_inBoxes 1 := ⟨gX8_count_X8_inBoxes, ⟨_, _, _, _, rfl, by decide⟩, by decide +kernel, rfl, rfl, by decide⟩
theorem kX8_count_X8_wrongOnes : jKv mX8_count 171 yX8_wrongOnes wsX8_wrongOnes rmX8_wrongOnes 0 := ⟨gX8_count_X8_wrongOnes, ⟨_, _, _, _, rfl, by decide⟩, by decide +kernel, rfl, rfl, by decide⟩
set_option maxRecDepth 100000 in
set_option maxHeartbeats 4000000 in
theorem c_X8_count (E : jE) (q : Nat → Nat) (F : Nat → Int → Int) (x : Nat → Int → Int) (v : Int → Int) (w : Int) (hx : sOK x) (hr : Rel x (F 0)) (hv3 : v 3 = F 6 2) (hv2 : v 2 = F 6 1) (wb : -2147483648 ≤ w ∧ w < 2147483648) : jMI E yX8_count wsX8_count rmX8_count [.ref (q 0), .int (jI w)] (wModel E q F) (mCount x v w) (wModel E q F) := by
  refine jMI_of (cc := cX8_count) (maxL := 2) (ret := (some .int)) [(0, .ref (q 0)), (1, .int (jI w))] (by decide) rfl rfl (Nat.le_of_ble_eq_true rfl) (fun C => ?_)
  show jG mX8_count E C (jQi E C (mCount x v w) (wModel E q F)) 0 0 0 [(0, .ref (q 0)), (1, .int (jI w))] [] (wModel E q F)
  have r9 : 0 ≤ x 9 0 ∧ x 9 0 ≤ 8 := hx 9
  have r0 : ∀ i, 0 ≤ x 0 i ∧ x 0 i < 404000 := hx 0
  have r1 : ∀ i, 0 ≤ x 1 i ∧ x 1 i ≤ 3 := hx 1
  have r2 : ∀ i, 0 ≤ x 2 i ∧ x 2 i ≤ 2 := hx 2
  have r3 : ∀ i, -1 ≤ x 3 i ∧ x 3 i ≤ 4 := hx 3
  have r4 : ∀ i, 0 ≤ x 4 i ∧ x 4 i < 404000 := hx 4
  have r5 : ∀ i, 0 ≤ x 5 i ∧ x 5 i ≤ 512 ∧ (i < 4 → x 5 i ≤ 20) := hx 5
  have r6 : ∀ i, 0 ≤ x 6 i ∧ x 6 i < 404000 := hx 6
  have hrr := Rel_RelR hr
  have c0 := Rel_cup0 hr
  have s4 : x 9 0 = F 0 4 := hr.2.2.1.1
  have r20 := r2 0
  have cn := hr.2.2.2.2.2
  refine j_iload_n 1 1 dX8_count_0 rfl rfl ?_
  rcases (show w = 0 ∨ w = 1 ∨ w = 2 ∨ w = 3 ∨ w = 4 ∨ w = 5 ∨ w = 6 ∨ w = 7 ∨ w = 8 ∨ w = 9 ∨ w = 10 ∨ w = 11 ∨ w = 12 ∨ w = 13 ∨ w = 14 ∨ w = 15 ∨ (w < 0 ∨ 15 < w) by omega) with hc | hc | hc | hc | hc | hc | hc | hc | hc | hc | hc | hc | hc | hc | hc | hc | hc
  · skip
    have e : mCount x v w = x 9 0 := by unfold mCount; rw [if_pos (by omega)]
    rw [e]
    rw [s4]
    refine j_tabIn 0 80 hc dX8_count_1 (by decide) rfl (by decide) ?_
    refine j_aload_n 0 81 dX8_count_80 rfl rfl ?_
    refine j_get 0 0 1 84 in_X8_count_X8 dX8_count_81 rfl rfl rfl (by decide) rfl rfl ?_
    refine j_iconst 85 dX8_count_84 rfl ?_
    refine j_iald 1 86 dX8_count_85 rfl rfl (by decide) (by omega) ?_
    exact j_iret dX8_count_86 rfl (by first | rfl | (subst hc; rfl) | (congr 1; omega)) (by rfl)
  · skip
    have e : mCount x v w = x 9 1 := by unfold mCount; rw [if_neg (by omega), if_pos (by omega)]
    rw [e]
    rw [cn.1]
    refine j_tabIn 1 87 hc dX8_count_1 (by decide) rfl (by decide) ?_
    refine j_aload_n 0 88 dX8_count_87 rfl rfl ?_
    refine j_get 0 0 1 91 in_X8_count_X8 dX8_count_88 rfl rfl rfl (by decide) rfl rfl ?_
    refine j_sipush 94 dX8_count_91 rfl (by decide) ?_
    refine j_iald 1 95 dX8_count_94 rfl rfl (by decide) (by omega) ?_
    exact j_iret dX8_count_95 rfl (by first | rfl | (subst hc; rfl) | (congr 1; omega)) (by rfl)
  · skip
    have e : mCount x v w = jSum (x 2) 12 := by unfold mCount; rw [if_neg (by omega), if_neg (by omega), if_pos (by omega)]
    rw [e]
    refine j_tabIn 2 96 hc dX8_count_1 (by decide) rfl (by decide) ?_
    refine j_aload_n 0 97 dX8_count_96 rfl rfl ?_
    refine j_callVi 0 [0, 1] 100 [_, _, _, _, _, _, _] (c_X8_onBelt E _ _ _ (F 0) x (by exact hx) (by exact hr)) rfl kX8_count_X8_onBelt rfl rfl rfl rfl rfl rfl rfl (Nat.le_of_ble_eq_true rfl) (by decide) dX8_count_97 rfl ?_
    exact j_iret dX8_count_100 rfl (by first | rfl | (subst hc; rfl) | (congr 1; omega)) (by rfl)
  · skip
    have e : mCount x v w = jSum (fun i => if x 2 i = 2 then 1 else 0) 12 := by unfold mCount; rw [if_neg (by omega), if_neg (by omega), if_neg (by omega), if_pos (by omega)]
    rw [e]
    refine j_tabIn 3 101 hc dX8_count_1 (by decide) rfl (by decide) ?_
    refine j_aload_n 0 102 dX8_count_101 rfl rfl ?_
    refine j_callVi 0 [0, 1] 105 [_, _, _, _, _, _, _] (c_X8_doublesOnBelt E _ _ _ (F 0) x (by exact hx) (by exact hr)) rfl kX8_count_X8_doublesOnBelt rfl rfl rfl rfl rfl rfl rfl (Nat.le_of_ble_eq_true rfl) (by decide) dX8_count_102 rfl ?_
    exact j_iret dX8_count_105 rfl (by first | rfl | (subst hc; rfl) | (congr 1; omega)) (by rfl)
  · skip
    have e : mCount x v w = jSum (x 5) 5 := by unfold mCount; rw [if_neg (by omega), if_neg (by omega), if_neg (by omega), if_neg (by omega), if_pos (by omega)]
    rw [e]
    refine j_tabIn 4 106 hc dX8_count_1 (by decide) rfl (by decide) ?_
    refine j_aload_n 0 107 dX8_count_106 rfl rfl ?_
    refine j_iconst 108 dX8_count_107 rfl ?_
    refine j_callVi 0 [0, 1] 111 [_, _, _, _, _, _, _] (c_X8_inBoxes E _ _ _ (F 0) x 5 (by exact hx) (by exact hr) (by omega)) rfl kX8_count_X8_inBoxes rfl rfl rfl rfl rfl rfl rfl (Nat.le_of_ble_eq_true rfl) (by decide) dX8_count_108 rfl ?_
    exact j_iret dX8_count_111 rfl (by first | rfl | (subst hc; rfl) | (congr 1; omega)) (by rfl)
  · skip
    have e : mCount x v w = sWa x := by unfold mCount; rw [if_neg (by omega), if_neg (by omega), if_neg (by omega), if_neg (by omega), if_neg (by omega), if_pos (by omega)]
    rw [e]
    refine j_tabIn 5 112 hc dX8_count_1 (by decide) rfl (by decide) ?_
    refine j_aload_n 0 113 dX8_count_112 rfl rfl ?_
    refine j_callVi 0 [0, 1] 116 [_, _, _, _, _, _, _] (c_X8_wrongOnes E _ _ _ (F 0) x (by exact hx) (by exact hr)) rfl kX8_count_X8_wrongOnes rfl rfl rfl rfl rfl rfl rfl (Nat.le_of_ble_eq_true rfl) (by decide) dX8_count_113 rfl ?_
    exact j_iret dX8_count_116 rfl (by first | rfl | (subst hc; rfl) | (congr 1; omega)) (by rfl)
  · skip
    have e : mCount x v w = x 9 2 := by unfold mCount; rw [if_neg (by omega), if_neg (by omega), if_neg (by omega), if_neg (by omega), if_neg (by omega), if_neg (by omega), if_pos (by omega)]
    rw [e]
    rw [cn.2.1]
    refine j_tabIn 6 117 hc dX8_count_1 (by decide) rfl (by decide) ?_
    refine j_aload_n 0 118 dX8_count_117 rfl rfl ?_
    refine j_get 0 0 1 121 in_X8_count_X8 dX8_count_118 rfl rfl rfl (by decide) rfl rfl ?_
    refine j_sipush 124 dX8_count_121 rfl (by decide) ?_
    refine j_iload_n 1 125 dX8_count_124 rfl rfl ?_
    refine j_iadd 126 dX8_count_125 rfl ?_
    refine j_bipush 128 dX8_count_126 rfl (by decide) ?_
    refine j_isub 129 dX8_count_128 rfl ?_
    refine j_iald 1 130 dX8_count_129 rfl rfl (by decide) (by omega) ?_
    exact j_iret dX8_count_130 rfl (by first | rfl | (subst hc; rfl) | (congr 1; omega)) (by rfl)
  · skip
    have e : mCount x v w = x 9 3 := by unfold mCount; rw [if_neg (by omega), if_neg (by omega), if_neg (by omega), if_neg (by omega), if_neg (by omega), if_neg (by omega), if_neg (by omega), if_pos (by omega)]
    rw [e]
    rw [cn.2.2.1]
    refine j_tabIn 7 117 hc dX8_count_1 (by decide) rfl (by decide) ?_
    refine j_aload_n 0 118 dX8_count_117 rfl rfl ?_
    refine j_get 0 0 1 121 in_X8_count_X8 dX8_count_118 rfl rfl rfl (by decide) rfl rfl ?_
    refine j_sipush 124 dX8_count_121 rfl (by decide) ?_
    refine j_iload_n 1 125 dX8_count_124 rfl rfl ?_
    refine j_iadd 126 dX8_count_125 rfl ?_
    refine j_bipush 128 dX8_count_126 rfl (by decide) ?_
    refine j_isub 129 dX8_count_128 rfl ?_
    refine j_iald 1 130 dX8_count_129 rfl rfl (by decide) (by omega) ?_
    exact j_iret dX8_count_130 rfl (by first | rfl | (subst hc; rfl) | (congr 1; omega)) (by rfl)
  · skip
    have e : mCount x v w = x 9 4 := by unfold mCount; rw [if_neg (by omega), if_neg (by omega), if_neg (by omega), if_neg (by omega), if_neg (by omega), if_neg (by omega), if_neg (by omega), if_neg (by omega), if_pos (by omega)]
    rw [e]
    rw [cn.2.2.2.1]
    refine j_tabIn 8 117 hc dX8_count_1 (by decide) rfl (by decide) ?_
    refine j_aload_n 0 118 dX8_count_117 rfl rfl ?_
    refine j_get 0 0 1 121 in_X8_count_X8 dX8_count_118 rfl rfl rfl (by decide) rfl rfl ?_
    refine j_sipush 124 dX8_count_121 rfl (by decide) ?_
    refine j_iload_n 1 125 dX8_count_124 rfl rfl ?_
    refine j_iadd 126 dX8_count_125 rfl ?_
    refine j_bipush 128 dX8_count_126 rfl (by decide) ?_
    refine j_isub 129 dX8_count_128 rfl ?_
    refine j_iald 1 130 dX8_count_129 rfl rfl (by decide) (by omega) ?_
    exact j_iret dX8_count_130 rfl (by first | rfl | (subst hc; rfl) | (congr 1; omega)) (by rfl)
  · skip
    have e : mCount x v w = x 9 5 := by unfold mCount; rw [if_neg (by omega), if_neg (by omega), if_neg (by omega), if_neg (by omega), if_neg (by omega), if_neg (by omega), if_neg (by omega), if_neg (by omega), if_neg (by omega), if_pos (by omega)]
    rw [e]
    rw [cn.2.2.2.2.1]
    refine j_tabIn 9 117 hc dX8_count_1 (by decide) rfl (by decide) ?_
    refine j_aload_n 0 118 dX8_count_117 rfl rfl ?_
    refine j_get 0 0 1 121 in_X8_count_X8 dX8_count_118 rfl rfl rfl (by decide) rfl rfl ?_
    refine j_sipush 124 dX8_count_121 rfl (by decide) ?_
    refine j_iload_n 1 125 dX8_count_124 rfl rfl ?_
    refine j_iadd 126 dX8_count_125 rfl ?_
    refine j_bipush 128 dX8_count_126 rfl (by decide) ?_
    refine j_isub 129 dX8_count_128 rfl ?_
    refine j_iald 1 130 dX8_count_129 rfl rfl (by decide) (by omega) ?_
    exact j_iret dX8_count_130 rfl (by first | rfl | (subst hc; rfl) | (congr 1; omega)) (by rfl)
  · skip
    have e : mCount x v w = x 9 6 := by unfold mCount; rw [if_neg (by omega), if_neg (by omega), if_neg (by omega), if_neg (by omega), if_neg (by omega), if_neg (by omega), if_neg (by omega), if_neg (by omega), if_neg (by omega), if_neg (by omega), if_pos (by omega)]
    rw [e]
    rw [cn.2.2.2.2.2]
    refine j_tabIn 10 117 hc dX8_count_1 (by decide) rfl (by decide) ?_
    refine j_aload_n 0 118 dX8_count_117 rfl rfl ?_
    refine j_get 0 0 1 121 in_X8_count_X8 dX8_count_118 rfl rfl rfl (by decide) rfl rfl ?_
    refine j_sipush 124 dX8_count_121 rfl (by decide) ?_
    refine j_iload_n 1 125 dX8_count_124 rfl rfl ?_
    refine j_iadd 126 dX8_count_125 rfl ?_
    refine j_bipush 128 dX8_count_126 rfl (by decide) ?_
    refine j_isub 129 dX8_count_128 rfl ?_
    refine j_iald 1 130 dX8_count_129 rfl rfl (by decide) (by omega) ?_
    exact j_iret dX8_count_130 rfl (by first | rfl | (subst hc; rfl) | (congr 1; omega)) (by rfl)
  · skip
    have e : mCount x v w = x 7 0 + 20 := by unfold mCount; rw [if_neg (by omega), if_neg (by omega), if_neg (by omega), if_neg (by omega), if_neg (by omega), if_neg (by omega), if_neg (by omega), if_neg (by omega), if_neg (by omega), if_neg (by omega), if_neg (by omega), if_pos (by omega)]
    rw [e]
    rw [hr.1.1]
    refine j_tabIn 11 131 hc dX8_count_1 (by decide) rfl (by decide) ?_
    refine j_aload_n 0 132 dX8_count_131 rfl rfl ?_
    refine j_get 0 0 1 135 in_X8_count_X8 dX8_count_132 rfl rfl rfl (by decide) rfl rfl ?_
    refine j_iconst 136 dX8_count_135 rfl ?_
    refine j_iald 1 137 dX8_count_136 rfl rfl (by decide) (by omega) ?_
    refine j_bipush 139 dX8_count_137 rfl (by decide) ?_
    refine j_iadd 140 dX8_count_139 rfl ?_
    exact j_iret dX8_count_140 rfl (by first | rfl | (subst hc; rfl) | (congr 1; omega)) (by rfl)
  · skip
    have e : mCount x v w = x 7 1 := by unfold mCount; rw [if_neg (by omega), if_neg (by omega), if_neg (by omega), if_neg (by omega), if_neg (by omega), if_neg (by omega), if_neg (by omega), if_neg (by omega), if_neg (by omega), if_neg (by omega), if_neg (by omega), if_neg (by omega), if_pos (by omega)]
    rw [e]
    rw [hr.1.2.1]
    refine j_tabIn 12 141 hc dX8_count_1 (by decide) rfl (by decide) ?_
    refine j_aload_n 0 142 dX8_count_141 rfl rfl ?_
    refine j_get 0 0 1 145 in_X8_count_X8 dX8_count_142 rfl rfl rfl (by decide) rfl rfl ?_
    refine j_iconst 146 dX8_count_145 rfl ?_
    refine j_iload_n 1 147 dX8_count_146 rfl rfl ?_
    refine j_iadd 148 dX8_count_147 rfl ?_
    refine j_bipush 150 dX8_count_148 rfl (by decide) ?_
    refine j_isub 151 dX8_count_150 rfl ?_
    refine j_iald 1 152 dX8_count_151 rfl rfl (by decide) (by omega) ?_
    exact j_iret dX8_count_152 rfl (by first | rfl | (subst hc; rfl) | (congr 1; omega)) (by rfl)
  · skip
    have e : mCount x v w = x 7 2 := by unfold mCount; rw [if_neg (by omega), if_neg (by omega), if_neg (by omega), if_neg (by omega), if_neg (by omega), if_neg (by omega), if_neg (by omega), if_neg (by omega), if_neg (by omega), if_neg (by omega), if_neg (by omega), if_neg (by omega), if_neg (by omega), if_pos (by omega)]
    rw [e]
    rw [hr.1.2.2]
    refine j_tabIn 13 141 hc dX8_count_1 (by decide) rfl (by decide) ?_
    refine j_aload_n 0 142 dX8_count_141 rfl rfl ?_
    refine j_get 0 0 1 145 in_X8_count_X8 dX8_count_142 rfl rfl rfl (by decide) rfl rfl ?_
    refine j_iconst 146 dX8_count_145 rfl ?_
    refine j_iload_n 1 147 dX8_count_146 rfl rfl ?_
    refine j_iadd 148 dX8_count_147 rfl ?_
    refine j_bipush 150 dX8_count_148 rfl (by decide) ?_
    refine j_isub 151 dX8_count_150 rfl ?_
    refine j_iald 1 152 dX8_count_151 rfl rfl (by decide) (by omega) ?_
    exact j_iret dX8_count_152 rfl (by first | rfl | (subst hc; rfl) | (congr 1; omega)) (by rfl)
  · skip
    have e : mCount x v w = v 3 := by unfold mCount; rw [if_neg (by omega), if_neg (by omega), if_neg (by omega), if_neg (by omega), if_neg (by omega), if_neg (by omega), if_neg (by omega), if_neg (by omega), if_neg (by omega), if_neg (by omega), if_neg (by omega), if_neg (by omega), if_neg (by omega), if_neg (by omega), if_pos (by omega)]
    rw [e]
    rw [hv3]
    refine j_tabIn 14 153 hc dX8_count_1 (by decide) rfl (by decide) ?_
    refine j_aload_n 0 154 dX8_count_153 rfl rfl ?_
    refine j_get 0 7 2 157 in_X8_count_X8 dX8_count_154 rfl rfl rfl (by decide) rfl rfl ?_
    exact j_iret dX8_count_157 rfl (by first | rfl | (subst hc; rfl) | (congr 1; omega)) (by rfl)
  · skip
    have e : mCount x v w = v 2 := by unfold mCount; rw [if_neg (by omega), if_neg (by omega), if_neg (by omega), if_neg (by omega), if_neg (by omega), if_neg (by omega), if_neg (by omega), if_neg (by omega), if_neg (by omega), if_neg (by omega), if_neg (by omega), if_neg (by omega), if_neg (by omega), if_neg (by omega), if_neg (by omega), if_pos (by omega)]
    rw [e]
    rw [hv2]
    refine j_tabIn 15 158 hc dX8_count_1 (by decide) rfl (by decide) ?_
    refine j_aload_n 0 159 dX8_count_158 rfl rfl ?_
    refine j_get 0 5 3 162 in_X8_count_X8 dX8_count_159 rfl rfl rfl (by decide) rfl rfl ?_
    exact j_iret dX8_count_162 rfl (by first | rfl | (subst hc; rfl) | (congr 1; omega)) (by rfl)
  · skip
    have e : mCount x v w = -1 := by unfold mCount; rw [if_neg (by omega), if_neg (by omega), if_neg (by omega), if_neg (by omega), if_neg (by omega), if_neg (by omega), if_neg (by omega), if_neg (by omega), if_neg (by omega), if_neg (by omega), if_neg (by omega), if_neg (by omega), if_neg (by omega), if_neg (by omega), if_neg (by omega), if_neg (by omega)]
    rw [e]
    refine j_tabOut 163 dX8_count_1 (by omega) hc (by decide) ?_
    refine j_iconst 164 dX8_count_163 rfl ?_
    exact j_iret dX8_count_164 rfl (by first | rfl | (subst hc; rfl) | (congr 1; omega)) (by rfl)
theorem kX8_ifPassed_X8_in : jKs mX8_ifPassed 32 yX8_in wsX8_in rmX8_in 3 := ⟨gX8_ifPassed_X8_in, ⟨_, _, _, _, rfl, by decide⟩, by decide +kernel, rfl, rfl, by decide⟩
theorem kX8_ifPassed_X8_putsAside : jKv mX8_ifPassed 174 yX8_putsAside wsX8_putsAside rmX8_putsAside 0 := ⟨gX8_ifPassed_X8_putsAside, ⟨_, _, _, _, rfl, by decide⟩, by decide +kernel, rfl, rfl, by decide⟩
set_option maxRecDepth 20000 in
theorem in_X8_ifPassed_X8 : ∀ x ∈ u_ws RX8 TX8 11, x ∈ wsX8_ifPassed := by decide +kernel
theorem kX8_ifPassed_X8_putsBack : jKv mX8_ifPassed 177 yX8_putsBack wsX8_putsBack rmX8_putsBack 0 := ⟨gX8_ifPassed_X8_putsBack, ⟨_, _, _, _, rfl, by decide⟩, by decide +kernel, rfl, rfl, by decide⟩
theorem kX8_ifPassed_X8_wrongOnes : jKv mX8_ifPassed 171 yX8_wrongOnes wsX8_wrongOnes rmX8_wrongOnes 0 := ⟨gX8_ifPassed_X8_wrongOnes, ⟨_, _, _, _, rfl, by decide⟩, by decide +kernel, rfl, rfl, by decide⟩
theorem kX8_ifPassed_X8_tick : jKv mX8_ifPassed 96 yX8_tick wsX8_tick rmX8_tick 0 := ⟨gX8_ifPassed_X8_tick, ⟨_, _, _, _, rfl, by decide⟩, by decide +kernel, rfl, rfl, by decide⟩
set_option maxRecDepth 100000 in
set_option maxHeartbeats 4000000 in
theorem c_X8_ifPassed (E : jE) (q : Nat → Nat) (F : Nat → Int → Int) (x : Nat → Int → Int) (t w : Int) (hn : 0 ≤ F 6 1 ∧ F 6 1 ≤ 4) (hx : sOK x) (hr : Rel x (F 0)) (hi : sInv x 512) (ho : 0 ≤ x 9 3 ∧ x 9 3 < 1000000000) (tb : -2147483648 ≤ t ∧ t < 2147483648) (wb : -2147483648 ≤ w ∧ w < 2147483648) : jMI E yX8_ifPassed wsX8_ifPassed rmX8_ifPassed [.ref (q 0), .int (jI t), .int (jI w)] (wModel E q F) ((rIf x F t w).1) (wModel E q (rIf x F t w).2) := by
  refine jMI_of (cc := cX8_ifPassed) (maxL := 7) (ret := (some .int)) [(0, .ref (q 0)), (1, .int (jI t)), (2, .int (jI w))] (by decide) rfl rfl (Nat.le_of_ble_eq_true rfl) (fun C => ?_)
  show jG mX8_ifPassed E C (jQi E C ((rIf x F t w).1) (wModel E q (rIf x F t w).2)) 0 0 0 [(0, .ref (q 0)), (1, .int (jI t)), (2, .int (jI w))] [] (wModel E q F)
  have r9 : 0 ≤ x 9 0 ∧ x 9 0 ≤ 8 := hx 9
  have r0 : ∀ i, 0 ≤ x 0 i ∧ x 0 i < 404000 := hx 0
  have r1 : ∀ i, 0 ≤ x 1 i ∧ x 1 i ≤ 3 := hx 1
  have r2 : ∀ i, 0 ≤ x 2 i ∧ x 2 i ≤ 2 := hx 2
  have r3 : ∀ i, -1 ≤ x 3 i ∧ x 3 i ≤ 4 := hx 3
  have r4 : ∀ i, 0 ≤ x 4 i ∧ x 4 i < 404000 := hx 4
  have r5 : ∀ i, 0 ≤ x 5 i ∧ x 5 i ≤ 512 ∧ (i < 4 → x 5 i ≤ 20) := hx 5
  have r6 : ∀ i, 0 ≤ x 6 i ∧ x 6 i < 404000 := hx 6
  have hrr := Rel_RelR hr
  have c0 := Rel_cup0 hr
  have s4 : x 9 0 = F 0 4 := hr.2.2.1.1
  have r20 := r2 0
  have q1 : (1 ≤ t ∧ t ≤ 30 ∧ (if 1 ≤ t ∧ t ≤ 30 then (1 : Int) else 0) = 1) ∨ (¬ (1 ≤ t ∧ t ≤ 30) ∧ (if 1 ≤ t ∧ t ≤ 30 then (1 : Int) else 0) = 0) := by split <;> omega
  have q2 : (0 ≤ w ∧ w ≤ 3 ∧ (if 0 ≤ w ∧ w ≤ 3 then (1 : Int) else 0) = 1) ∨ (¬ (0 ≤ w ∧ w ≤ 3) ∧ (if 0 ≤ w ∧ w ≤ 3 then (1 : Int) else 0) = 0) := by split <;> omega
  refine j_iload_n 1 1 dX8_ifPassed_0 rfl rfl ?_
  refine j_iconst 2 dX8_ifPassed_1 rfl ?_
  refine j_bipush 4 dX8_ifPassed_2 rfl (by decide) ?_
  refine j_callSi [] 7 [_, _, _, _, _, _, _] (c_X8_in E _ _ _ (by omega) (by omega) (by omega)) rfl kX8_ifPassed_X8_in rfl rfl rfl rfl rfl (Nat.le_of_ble_eq_true rfl) (by decide) dX8_ifPassed_4 rfl ?_
  refine j_if_eq 19 10 dX8_ifPassed_7 rfl (by decide) (by omega) (fun h_7 => ?_) (fun h_7 => ?_)
  · skip
    have e : rIf x F t w = (-1, F) := if_pos (by omega)
    rw [e]
    refine j_iconst 20 dX8_ifPassed_19 rfl ?_
    exact j_iret dX8_ifPassed_20 rfl (by first | rfl | (exfalso; omega)) (by rfl)
  · skip
    refine j_iload_n 2 11 dX8_ifPassed_10 rfl rfl ?_
    refine j_iconst 12 dX8_ifPassed_11 rfl ?_
    refine j_iconst 13 dX8_ifPassed_12 rfl ?_
    refine j_callSi [] 16 [_, _, _, _, _, _, _] (c_X8_in E _ _ _ (by omega) (by omega) (by omega)) rfl kX8_ifPassed_X8_in rfl rfl rfl rfl rfl (Nat.le_of_ble_eq_true rfl) (by decide) dX8_ifPassed_13 rfl ?_
    refine j_if_ne 21 19 dX8_ifPassed_16 rfl (by decide) (by omega) (fun h_16 => ?_) (fun h_16 => ?_)
    · skip
      have e : rIf x F t w = (if w = 0 then (sPass x t.toNat).2 else if w = 1 then (sPass x t.toNat).1 9 3 - x 9 3 else if w = 2 then sWa (sPass x t.toNat).1 else sFirst x (x 9 3) t.toNat, fIf x F t.toNat) := if_neg (by omega)
      rw [e]
      refine j_aload_n 0 22 dX8_ifPassed_21 rfl rfl ?_
      refine j_callVv 0 [0, 1, 2, 3, 4, 5, 6] 25 [_, _, _, _, _, _, _] (c_X8_putsAside E _ _ ) rfl kX8_ifPassed_X8_putsAside rfl rfl rfl rfl rfl rfl rfl (Nat.le_of_ble_eq_true rfl) (by decide) dX8_ifPassed_22 rfl ?_
      refine j_aload_n 0 26 dX8_ifPassed_25 rfl rfl ?_
      refine j_get 0 0 1 29 in_X8_ifPassed_X8 dX8_ifPassed_26 rfl rfl rfl (by decide) rfl rfl ?_
      refine j_sipush 32 dX8_ifPassed_29 rfl (by decide) ?_
      refine j_iald 1 33 dX8_ifPassed_32 rfl rfl (by decide) (by omega) ?_
      have cn := hr.2.2.2.2.2.2.2.1
      change jG _ E C _ 0 0 33 _ (.int (jI (F 0 172)) :: _) _
      rw [← cn]
      refine j_istore_n 34 [_, _, _, _] dX8_ifPassed_33 rfl (by decide) rfl ?_
      refine j_bipush 36 dX8_ifPassed_34 rfl (by decide) ?_
      refine j_istore 38 [_, _, _, _, _] dX8_ifPassed_36 rfl (by decide) rfl ?_
      refine j_iconst 39 dX8_ifPassed_38 rfl ?_
      refine j_istore 41 [_, _, _, _, _, _] dX8_ifPassed_39 rfl (by decide) rfl ?_
      refine j_iconst 42 dX8_ifPassed_41 rfl ?_
      refine j_istore 44 [_, _, _, _, _, _, _] dX8_ifPassed_42 rfl (by decide) rfl ?_
      have key44 : ∀ (fu i : Nat), t.toNat < i + fu → (i : Int) ≤ t → jG mX8_ifPassed E C (jQi E C (((if w = 0 then (sPass x t.toNat).2 else if w = 1 then (sPass x t.toNat).1 9 3 - x 9 3 else if w = 2 then sWa (sPass x t.toNat).1 else sFirst x (x 9 3) t.toNat, fIf x F t.toNat) : Int × (Nat → Int → Int)).1) (wModel E q ((if w = 0 then (sPass x t.toNat).2 else if w = 1 then (sPass x t.toNat).1 9 3 - x 9 3 else if w = 2 then sWa (sPass x t.toNat).1 else sFirst x (x 9 3) t.toNat, fIf x F t.toNat) : Int × (Nat → Int → Int)).2)) 0 0 44 [(0, .ref (q 0)), (1, .int (jI t)), (2, .int (jI w)), (3, .int (jI (x 9 3))), (4, .int (jI (sFirst x (x 9 3) i))), (5, .int (jI (sPass x i).2)), (6, .int (jI ((i : Int) + 1)))] [] (wModel E q (jS (jS F 3 (jCp (F 0) (F 3) 0 0 1200)) 0 (fPass x (F 0) i))) := by
        intro fu
        induction fu with
        | zero => intro i h1 h2; exact absurd h1 (by omega)
        | succ fu ih =>
          intro i h1 h2
          have iv := sInv_pass hi (by omega) i
          have rv := Rel_pass hi (by omega) hr i
          have rv2 := (Rel_pass hi (by omega) hr (i + 1)).2.2.2.2.2.2.2.1
          have rv1 := rv.2.2.2.2.2.2.2.1
          have fr := sFirst_rng x (x 9 3) i
          have ov : 0 ≤ (sPass x (i + 1)).1 9 3 ∧ (sPass x (i + 1)).1 9 3 ≤ x 9 3 + 4 * ((i + 1 : Nat) : Int) := sOver_pass x ho.1 (i + 1)
          have ov0 : 0 ≤ (sPass x i).1 9 3 ∧ (sPass x i).1 9 3 ≤ x 9 3 + 4 * i := sOver_pass x ho.1 i
          have om : x 9 3 ≤ (sPass x (i + 1)).1 9 3 := sOver_mono x (i + 1)
          have fq : sFirst x (x 9 3) i = -4 ∨ 0 ≤ sFirst x (x 9 3) i := sFirst_4 x (x 9 3) i
          refine j_iload 6 46 dX8_ifPassed_44 rfl rfl ?_
          refine j_iload_n 1 47 dX8_ifPassed_46 rfl rfl ?_
          refine j_icmp_gt 91 50 dX8_ifPassed_47 rfl (by decide) (by omega) (by omega) (fun h_47 => ?_) (fun h_47 => ?_)
          · skip
            obtain rfl : i = t.toNat := by omega
            refine j_iload_n 2 92 dX8_ifPassed_91 rfl rfl ?_
            refine j_if_ne 100 95 dX8_ifPassed_92 rfl (by decide) (by omega) (fun h_92 => ?_) (fun h_92 => ?_)
            · skip
              refine j_iload_n 2 101 dX8_ifPassed_100 rfl rfl ?_
              refine j_iconst 102 dX8_ifPassed_101 rfl ?_
              refine j_icmp_ne 118 105 dX8_ifPassed_102 rfl (by decide) (by omega) (by omega) (fun h_102 => ?_) (fun h_102 => ?_)
              · skip
                refine j_iload_n 2 119 dX8_ifPassed_118 rfl rfl ?_
                refine j_iconst 120 dX8_ifPassed_119 rfl ?_
                refine j_icmp_ne 130 123 dX8_ifPassed_120 rfl (by decide) (by omega) (by omega) (fun h_120 => ?_) (fun h_120 => ?_)
                · skip
                  rw [if_neg h_92, if_neg h_102, if_neg h_120]
                  refine j_iload 4 132 dX8_ifPassed_130 rfl rfl ?_
                  refine j_istore 134 [_, _, _, _, _, _, _] dX8_ifPassed_132 rfl (by decide) rfl ?_
                  refine j_aload_n 1 135 dX8_ifPassed_134 rfl rfl ?_
                  refine j_callVv 0 [0, 1, 2, 3, 4, 5, 6] 138 [_, _, _, _, _, _, _] (c_X8_putsBack E _ _ ) rfl kX8_ifPassed_X8_putsBack rfl rfl rfl rfl rfl rfl rfl (Nat.le_of_ble_eq_true rfl) (by decide) dX8_ifPassed_135 rfl ?_
                  refine j_iload 0 140 dX8_ifPassed_138 rfl rfl ?_
                  exact j_iret dX8_ifPassed_140 rfl (by first | rfl | (exfalso; omega)) (by rfl)
                · skip
                  rw [if_neg h_92, if_neg h_102, if_pos h_120]
                  refine j_aload_n 0 124 dX8_ifPassed_123 rfl rfl ?_
                  refine j_callVi 0 [0, 1] 127 [_, _, _, _, _, _, _] (c_X8_wrongOnes E _ _ _ (fPass x (F 0) t.toNat) (sPass x t.toNat).1 (by exact iv.1) (by exact rv)) rfl kX8_ifPassed_X8_wrongOnes rfl rfl rfl rfl rfl rfl rfl (Nat.le_of_ble_eq_true rfl) (by decide) dX8_ifPassed_124 rfl ?_
                  refine j_goto 132 dX8_ifPassed_127 (by decide) ?_
                  refine j_istore 134 [_, _, _, _, _, _, _] dX8_ifPassed_132 rfl (by decide) rfl ?_
                  refine j_aload_n 1 135 dX8_ifPassed_134 rfl rfl ?_
                  refine j_callVv 0 [0, 1, 2, 3, 4, 5, 6] 138 [_, _, _, _, _, _, _] (c_X8_putsBack E _ _ ) rfl kX8_ifPassed_X8_putsBack rfl rfl rfl rfl rfl rfl rfl (Nat.le_of_ble_eq_true rfl) (by decide) dX8_ifPassed_135 rfl ?_
                  refine j_iload 0 140 dX8_ifPassed_138 rfl rfl ?_
                  exact j_iret dX8_ifPassed_140 rfl (by first | rfl | (exfalso; omega)) (by rfl)
              · skip
                rw [if_neg h_92, if_pos h_102]
                refine j_aload_n 0 106 dX8_ifPassed_105 rfl rfl ?_
                refine j_get 0 0 1 109 in_X8_ifPassed_X8 dX8_ifPassed_106 rfl rfl rfl (by decide) rfl rfl ?_
                refine j_sipush 112 dX8_ifPassed_109 rfl (by decide) ?_
                refine j_iald 1 113 dX8_ifPassed_112 rfl rfl (by decide) (by omega) ?_
                change jG _ E C _ 0 0 113 _ (.int (jI (fPass x (F 0) t.toNat 172)) :: _) _
                rw [← rv1]
                refine j_iload_n 3 114 dX8_ifPassed_113 rfl rfl ?_
                refine j_isub 115 dX8_ifPassed_114 rfl ?_
                refine j_goto 132 dX8_ifPassed_115 (by decide) ?_
                refine j_istore 134 [_, _, _, _, _, _, _] dX8_ifPassed_132 rfl (by decide) rfl ?_
                refine j_aload_n 1 135 dX8_ifPassed_134 rfl rfl ?_
                refine j_callVv 0 [0, 1, 2, 3, 4, 5, 6] 138 [_, _, _, _, _, _, _] (c_X8_putsBack E _ _ ) rfl kX8_ifPassed_X8_putsBack rfl rfl rfl rfl rfl rfl rfl (Nat.le_of_ble_eq_true rfl) (by decide) dX8_ifPassed_135 rfl ?_
                refine j_iload 0 140 dX8_ifPassed_138 rfl rfl ?_
                exact j_iret dX8_ifPassed_140 rfl (by first | rfl | (exfalso; omega)) (by rfl)
            · skip
              rw [if_pos h_92]
              refine j_iload 5 97 dX8_ifPassed_95 rfl rfl ?_
              refine j_goto 132 dX8_ifPassed_97 (by decide) ?_
              refine j_istore 134 [_, _, _, _, _, _, _] dX8_ifPassed_132 rfl (by decide) rfl ?_
              refine j_aload_n 1 135 dX8_ifPassed_134 rfl rfl ?_
              refine j_callVv 0 [0, 1, 2, 3, 4, 5, 6] 138 [_, _, _, _, _, _, _] (c_X8_putsBack E _ _ ) rfl kX8_ifPassed_X8_putsBack rfl rfl rfl rfl rfl rfl rfl (Nat.le_of_ble_eq_true rfl) (by decide) dX8_ifPassed_135 rfl ?_
              refine j_iload 0 140 dX8_ifPassed_138 rfl rfl ?_
              exact j_iret dX8_ifPassed_140 rfl (by first | rfl | (exfalso; omega)) (by rfl)
          · skip
            refine j_iload 5 52 dX8_ifPassed_50 rfl rfl ?_
            refine j_aload_n 0 53 dX8_ifPassed_52 rfl rfl ?_
            refine j_callVi 0 [0, 1] 56 [_, _, _, _, _, _, _] (c_X8_tick E _ _ _ (fPass x (F 0) i) (sPass x i).1 _ (by exact iv) (by omega) (by exact rv)) rfl kX8_ifPassed_X8_tick rfl rfl rfl rfl rfl rfl rfl (Nat.le_of_ble_eq_true rfl) (by decide) dX8_ifPassed_53 rfl ?_
            refine j_iadd 57 dX8_ifPassed_56 rfl ?_
            refine j_istore 59 [_, _, _, _, _, _, _] dX8_ifPassed_57 rfl (by decide) rfl ?_
            refine j_iload 5 61 dX8_ifPassed_59 rfl rfl ?_
            refine j_if_ge 81 64 dX8_ifPassed_61 rfl (by decide) (by omega) (fun h_61 => ?_) (fun h_61 => ?_)
            · skip
              refine j_iload 5 83 dX8_ifPassed_81 rfl rfl ?_
              refine j_istore 85 [_, _, _, _, _, _, _] dX8_ifPassed_83 rfl (by decide) rfl ?_
              refine j_iinc 6 88 [_, _, _, _, _, _, _] dX8_ifPassed_85 rfl rfl (by decide) rfl ?_
              refine j_goto 44 dX8_ifPassed_88 (by decide) ?_
              refine j_perm [3, 4, 5, 6, 1, 2, 0] rfl ?_
              have k := ih (i + 1) (by omega) (by omega)
              first
                | (have eF : sFirst x (x 9 3) (i + 1) = (i : Int) + 1 := if_pos (by omega)
                   rw [eF] at k; exact k)
                | (have eF : sFirst x (x 9 3) (i + 1) = sFirst x (x 9 3) i := if_neg (by omega)
                   rw [eF] at k; exact k)
            · skip
              refine j_aload_n 1 65 dX8_ifPassed_64 rfl rfl ?_
              refine j_get 0 0 1 68 in_X8_ifPassed_X8 dX8_ifPassed_65 rfl rfl rfl (by decide) rfl rfl ?_
              refine j_sipush 71 dX8_ifPassed_68 rfl (by decide) ?_
              refine j_iald 1 72 dX8_ifPassed_71 rfl rfl (by decide) (by omega) ?_
              change jG _ E C _ 0 0 72 _ (.int (jI (fPass x (F 0) (i + 1) 172)) :: _) _
              rw [← rv2]
              refine j_iload_n 4 73 dX8_ifPassed_72 rfl rfl ?_
              refine j_icmp_le 81 76 dX8_ifPassed_73 rfl (by decide) (by omega) (by omega) (fun h_73 => ?_) (fun h_73 => ?_)
              · skip
                refine j_iload 5 83 dX8_ifPassed_81 rfl rfl ?_
                refine j_istore 85 [_, _, _, _, _, _, _] dX8_ifPassed_83 rfl (by decide) rfl ?_
                refine j_iinc 6 88 [_, _, _, _, _, _, _] dX8_ifPassed_85 rfl rfl (by decide) rfl ?_
                refine j_goto 44 dX8_ifPassed_88 (by decide) ?_
                refine j_perm [3, 4, 5, 6, 1, 2, 0] rfl ?_
                have k := ih (i + 1) (by omega) (by omega)
                first
                  | (have eF : sFirst x (x 9 3) (i + 1) = (i : Int) + 1 := if_pos (by omega)
                     rw [eF] at k; exact k)
                  | (have eF : sFirst x (x 9 3) (i + 1) = sFirst x (x 9 3) i := if_neg (by omega)
                     rw [eF] at k; exact k)
              · skip
                refine j_iload 6 78 dX8_ifPassed_76 rfl rfl ?_
                refine j_goto 83 dX8_ifPassed_78 (by decide) ?_
                refine j_istore 85 [_, _, _, _, _, _, _] dX8_ifPassed_83 rfl (by decide) rfl ?_
                refine j_iinc 6 88 [_, _, _, _, _, _, _] dX8_ifPassed_85 rfl rfl (by decide) rfl ?_
                refine j_goto 44 dX8_ifPassed_88 (by decide) ?_
                refine j_perm [3, 4, 5, 6, 1, 2, 0] rfl ?_
                have k := ih (i + 1) (by omega) (by omega)
                first
                  | (have eF : sFirst x (x 9 3) (i + 1) = (i : Int) + 1 := if_pos (by omega)
                     rw [eF] at k; exact k)
                  | (have eF : sFirst x (x 9 3) (i + 1) = sFirst x (x 9 3) i := if_neg (by omega)
                     rw [eF] at k; exact k)
      refine j_perm [4, 5, 6, 3, 2, 1, 0] rfl ?_
      exact key44 (t.toNat + 1) 0 (by omega) (by omega)
    · skip
      have e : rIf x F t w = (-1, F) := if_pos (by omega)
      rw [e]
      refine j_iconst 20 dX8_ifPassed_19 rfl ?_
      exact j_iret dX8_ifPassed_20 rfl (by first | rfl | (exfalso; omega)) (by rfl)
theorem kX8_tightest_X8_isRule : jKv mX8_tightest 99 yX8_isRule wsX8_isRule rmX8_isRule 1 := ⟨gX8_tightest_X8_isRule, ⟨_, _, _, _, rfl, by decide⟩, by decide +kernel, rfl, rfl, by decide⟩
theorem kX8_tightest_X8_in : jKs mX8_tightest 32 yX8_in wsX8_in rmX8_in 3 := ⟨gX8_tightest_X8_in, ⟨_, _, _, _, rfl, by decide⟩, by decide +kernel, rfl, rfl, by decide⟩
theorem kX8_tightest_X8_ruleAt : jKs mX8_tightest 50 yX8_ruleAt wsX8_ruleAt rmX8_ruleAt 1 := ⟨gX8_tightest_X8_ruleAt, ⟨_, _, _, _, rfl, by decide⟩, by decide +kernel, rfl, rfl, by decide⟩
set_option maxRecDepth 20000 in
theorem in_X8_tightest_X8 : ∀ x ∈ u_ws RX8 TX8 11, x ∈ wsX8_tightest := by decide +kernel
theorem kX8_tightest_X8_comeTo : jKv mX8_tightest 180 yX8_comeTo wsX8_comeTo rmX8_comeTo 1 := ⟨gX8_tightest_X8_comeTo, ⟨_, _, _, _, rfl, by decide⟩, by decide +kernel, rfl, rfl, by decide⟩
set_option maxRecDepth 100000 in
set_option maxHeartbeats 4000000 in
theorem c_X8_tightest (E : jE) (o a : Nat) (fs : List Value) (f : Int → Int) (x : Nat → Int → Int) (r e : Int) (hx : sOK x) (hr : Rel x f) (rb : -2147483648 ≤ r ∧ r < 2147483648) (eb : -2147483648 ≤ e ∧ e < 2147483648) : jMI E yX8_tightest wsX8_tightest rmX8_tightest [.ref o, .int (jI r), .int (jI e)] (wMs E o a fs f) (rTight x r e) (wMs E o a fs f) := by
  refine jMI_of (cc := cX8_tightest) (maxL := 7) (ret := (some .int)) [(0, .ref o), (1, .int (jI r)), (2, .int (jI e))] (by decide) rfl rfl (Nat.le_of_ble_eq_true rfl) (fun C => ?_)
  show jG mX8_tightest E C (jQi E C (rTight x r e) (wMs E o a fs f)) 0 0 0 [(0, .ref o), (1, .int (jI r)), (2, .int (jI e))] [] (wMs E o a fs f)
  have r9 : 0 ≤ x 9 0 ∧ x 9 0 ≤ 8 := hx 9
  have r0 : ∀ i, 0 ≤ x 0 i ∧ x 0 i < 404000 := hx 0
  have r1 : ∀ i, 0 ≤ x 1 i ∧ x 1 i ≤ 3 := hx 1
  have hrr := Rel_RelR hr
  have s4 : x 9 0 = f 4 := hr.2.2.1.1
  have rr : (0 ≤ r ∧ r < f 4 ∧ (if 0 ≤ r ∧ r < f 4 then (1 : Int) else 0) = 1) ∨ (¬ (0 ≤ r ∧ r < f 4) ∧ (if 0 ≤ r ∧ r < f 4 then (1 : Int) else 0) = 0) := by split <;> omega
  have q2 : (1 ≤ e ∧ e ≤ 20 ∧ (if 1 ≤ e ∧ e ≤ 20 then (1 : Int) else 0) = 1) ∨ (¬ (1 ≤ e ∧ e ≤ 20) ∧ (if 1 ≤ e ∧ e ≤ 20 then (1 : Int) else 0) = 0) := by split <;> omega
  refine j_aload_n 0 1 dX8_tightest_0 rfl rfl ?_
  refine j_iload_n 1 2 dX8_tightest_1 rfl rfl ?_
  refine j_callVi 0 [0, 1] 5 [_, _] (c_X8_isRule E _ _ _ _ _ (by omega) (by omega)) rfl kX8_tightest_X8_isRule rfl rfl rfl rfl rfl rfl rfl (Nat.le_of_ble_eq_true rfl) (by decide) dX8_tightest_2 rfl ?_
  refine j_if_eq 18 8 dX8_tightest_5 rfl (by decide) (by omega) (fun h_5 => ?_) (fun h_5 => ?_)
  · skip
    have e : rTight x r e = -1 := by unfold rTight; exact if_pos (by omega)
    rw [e]
    refine j_iconst 19 dX8_tightest_18 rfl ?_
    exact j_iret dX8_tightest_19 rfl (by rfl) (by rfl)
  · skip
    refine j_iload_n 2 9 dX8_tightest_8 rfl rfl ?_
    refine j_iconst 10 dX8_tightest_9 rfl ?_
    refine j_bipush 12 dX8_tightest_10 rfl (by decide) ?_
    refine j_callSi [] 15 [_, _] (c_X8_in E _ _ _ (by omega) (by omega) (by omega)) rfl kX8_tightest_X8_in rfl rfl rfl rfl rfl (Nat.le_of_ble_eq_true rfl) (by decide) dX8_tightest_12 rfl ?_
    refine j_if_ne 20 18 dX8_tightest_15 rfl (by decide) (by omega) (fun h_15 => ?_) (fun h_15 => ?_)
    · skip
      have e0 : rTight x r e = tgF x r e 101 := if_neg (by omega)
      obtain ⟨T, hT⟩ : ∃ T, T = tgF x r e 101 := ⟨_, rfl⟩
      rw [e0, ← hT]
      have ur := hr.2.2.1.2 r (by omega) (by omega)
      have r1r := r1 r
      refine j_iload_n 1 21 dX8_tightest_20 rfl rfl ?_
      refine j_callSi [] 24 [_, _] (c_X8_ruleAt E _ ) rfl kX8_tightest_X8_ruleAt rfl rfl rfl rfl rfl (Nat.le_of_ble_eq_true rfl) (by decide) dX8_tightest_21 rfl ?_
      refine j_istore_n 25 [_, _, _, _] dX8_tightest_24 rfl (by decide) rfl ?_
      refine j_aload_n 1 26 dX8_tightest_25 rfl rfl ?_
      refine j_get 0 0 1 29 in_X8_tightest_X8 dX8_tightest_26 rfl rfl rfl (by decide) rfl rfl ?_
      refine j_iload_n 0 30 dX8_tightest_29 rfl rfl ?_
      refine j_iconst 31 dX8_tightest_30 rfl ?_
      refine j_iadd 32 dX8_tightest_31 rfl ?_
      refine j_iald 1 33 dX8_tightest_32 rfl rfl (by decide) (by omega) ?_
      refine j_istore 35 [_, _, _, _, _] dX8_tightest_33 rfl (by decide) rfl ?_
      refine j_bipush 37 dX8_tightest_35 rfl (by decide) ?_
      refine j_istore 39 [_, _, _, _, _, _] dX8_tightest_37 rfl (by decide) rfl ?_
      refine j_iconst 40 dX8_tightest_39 rfl ?_
      refine j_istore 42 [_, _, _, _, _, _, _] dX8_tightest_40 rfl (by decide) rfl ?_
      have key42 : ∀ (fu i : Nat) (g : Int → Int), 101 < i + fu → i ≤ 101 → (∀ z, jU g (5 + 4 * r + 1) z = jU f (5 + 4 * r + 1) z) → jG mX8_tightest E C (jQi E C (T) (wMs E o a fs f)) 0 0 42 [(0, .ref o), (1, .int (jI r)), (2, .int (jI e)), (3, .int (jI (5 + 4 * r))), (4, .int (jI (f (5 + 4 * r + 1)))), (5, .int (jI (tgF x r e i))), (6, .int (jI (i : Int)))] [] (wMs E o a fs g) := by
        intro fu
        induction fu with
        | zero => intro i g h1 h2 hg; exact absurd h1 (by omega)
        | succ fu ih =>
          intro i g h1 h2 hg
          refine j_iload 6 44 dX8_tightest_42 rfl rfl ?_
          refine j_bipush 46 dX8_tightest_44 rfl (by decide) ?_
          refine j_icmp_gt 90 49 dX8_tightest_46 rfl (by decide) (by omega) (by omega) (fun h_46 => ?_) (fun h_46 => ?_)
          · skip
            have e101 : i = 101 := by omega
            have eTi : tgF x r e i = T := by rw [e101, hT]
            rw [eTi]
            refine j_aload_n 0 91 dX8_tightest_90 rfl rfl ?_
            refine j_get 0 0 1 94 in_X8_tightest_X8 dX8_tightest_91 rfl rfl rfl (by decide) rfl rfl ?_
            refine j_iload_n 3 95 dX8_tightest_94 rfl rfl ?_
            refine j_iconst 96 dX8_tightest_95 rfl ?_
            refine j_iadd 97 dX8_tightest_96 rfl ?_
            refine j_iload 4 99 dX8_tightest_97 rfl rfl ?_
            refine j_iast 1 100 [_, _] dX8_tightest_99 rfl rfl (by decide) (by omega) rfl ?_
            rw [hg, jU_self]
            refine j_iload 5 102 dX8_tightest_100 rfl rfl ?_
            exact j_iret dX8_tightest_102 rfl (by rfl) (by rfl)
          · skip
            have rt := Rel_tg (r := r) (a := i) hx hr (by omega) (by omega)
            have ok := sOK_tg (x := x) (r := r) (a := i) hx (by omega)
            have sr := sSng_rng (tgX x r i) (x 1 r)
            refine j_aload_n 0 50 dX8_tightest_49 rfl rfl ?_
            refine j_get 0 0 1 53 in_X8_tightest_X8 dX8_tightest_50 rfl rfl rfl (by decide) rfl rfl ?_
            refine j_iload_n 3 54 dX8_tightest_53 rfl rfl ?_
            refine j_iconst 55 dX8_tightest_54 rfl ?_
            refine j_iadd 56 dX8_tightest_55 rfl ?_
            refine j_iload 6 58 dX8_tightest_56 rfl rfl ?_
            refine j_iast 1 59 [_, _] dX8_tightest_58 rfl rfl (by decide) (by omega) rfl ?_
            rw [hg]
            refine j_aload_n 0 60 dX8_tightest_59 rfl rfl ?_
            refine j_aload_n 0 61 dX8_tightest_60 rfl rfl ?_
            refine j_get 0 0 1 64 in_X8_tightest_X8 dX8_tightest_61 rfl rfl rfl (by decide) rfl rfl ?_
            refine j_iload_n 3 65 dX8_tightest_64 rfl rfl ?_
            refine j_iconst 66 dX8_tightest_65 rfl ?_
            refine j_iadd 67 dX8_tightest_66 rfl ?_
            refine j_iald 1 68 dX8_tightest_67 rfl rfl (by decide) (by omega) ?_
            rw [jU_ne (by omega), ← ur.2.2.2]
            refine j_callVi 0 [0, 1] 71 [_, _] (c_X8_comeTo E _ _ _ (jU f (5 + 4 * r + 1) i) (tgX x r i) _ (by exact ok) (by exact rt) (by omega)) rfl kX8_tightest_X8_comeTo rfl rfl rfl rfl rfl rfl rfl (Nat.le_of_ble_eq_true rfl) (by decide) dX8_tightest_68 rfl ?_
            refine j_iload_n 2 72 dX8_tightest_71 rfl rfl ?_
            refine j_icmp_lt 80 75 dX8_tightest_72 rfl (by decide) (by omega) (by omega) (fun h_72 => ?_) (fun h_72 => ?_)
            · skip
              refine j_iload 5 82 dX8_tightest_80 rfl rfl ?_
              refine j_istore 84 [_, _, _, _, _, _, _] dX8_tightest_82 rfl (by decide) rfl ?_
              refine j_iinc 6 87 [_, _, _, _, _, _, _] dX8_tightest_84 rfl rfl (by decide) rfl ?_
              refine j_goto 42 dX8_tightest_87 (by decide) ?_
              refine j_perm [2, 3, 4, 5, 6, 1, 0] rfl ?_
              have k := ih (i + 1) (jU f (5 + 4 * r + 1) i) (by omega) (by omega) (fun z => jU_jU _ _ _ _)
              have eT : tgF x r e (i + 1) = if e ≤ sSng (tgX x r i) (x 1 r) then (i : Int) else tgF x r e i := rfl
              rw [eT] at k
              first
                | (rw [if_pos (by omega)] at k; exact k)
                | (rw [if_neg (by omega)] at k; exact k)
            · skip
              refine j_iload 6 77 dX8_tightest_75 rfl rfl ?_
              refine j_goto 82 dX8_tightest_77 (by decide) ?_
              refine j_istore 84 [_, _, _, _, _, _, _] dX8_tightest_82 rfl (by decide) rfl ?_
              refine j_iinc 6 87 [_, _, _, _, _, _, _] dX8_tightest_84 rfl rfl (by decide) rfl ?_
              refine j_goto 42 dX8_tightest_87 (by decide) ?_
              refine j_perm [2, 3, 4, 5, 6, 1, 0] rfl ?_
              have k := ih (i + 1) (jU f (5 + 4 * r + 1) i) (by omega) (by omega) (fun z => jU_jU _ _ _ _)
              have eT : tgF x r e (i + 1) = if e ≤ sSng (tgX x r i) (x 1 r) then (i : Int) else tgF x r e i := rfl
              rw [eT] at k
              first
                | (rw [if_pos (by omega)] at k; exact k)
                | (rw [if_neg (by omega)] at k; exact k)
      refine j_perm [4, 5, 6, 3, 2, 1, 0] rfl ?_
      exact key42 102 0 f (by omega) (by omega) (fun _ => rfl)
    · skip
      have e : rTight x r e = -1 := by unfold rTight; exact if_pos (by omega)
      rw [e]
      refine j_iconst 19 dX8_tightest_18 rfl ?_
      exact j_iret dX8_tightest_19 rfl (by rfl) (by rfl)
