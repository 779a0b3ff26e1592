/-! the reference: what it tells -/
theorem kX8_cup_X8_in : jKs mX8_cup 32 yX8_in wsX8_in rmX8_in 3 := ⟨gX8_cup_X8_in, ⟨_, _, _, _, rfl, by decide⟩, by decide +kernel, rfl, rfl, by decide⟩
theorem kX8_cup_X8_cupAt : jKs mX8_cup 60 yX8_cupAt wsX8_cupAt rmX8_cupAt 1 := ⟨gX8_cup_X8_cupAt, ⟨_, _, _, _, rfl, by decide⟩, by decide +kernel, rfl, rfl, by decide⟩
set_option maxRecDepth 20000 in
theorem in_X8_cup_X8 : ∀ x ∈ u_ws RX8 TX8 11, x ∈ wsX8_cup := by decide +kernel
theorem kX8_cup_X8_ticksOf : jKv mX8_cup 138 yX8_ticksOf wsX8_ticksOf rmX8_ticksOf 1 := ⟨gX8_cup_X8_ticksOf, ⟨_, _, _, _, rfl, by decide⟩, by decide +kernel, rfl, rfl, by decide⟩
theorem kX8_cup_X8_weightOf : jKs mX8_cup 43 yX8_weightOf wsX8_weightOf rmX8_weightOf 1 := ⟨gX8_cup_X8_weightOf, ⟨_, _, _, _, rfl, by decide⟩, by decide +kernel, rfl, rfl, by decide⟩
set_option maxRecDepth 100000 in
set_option maxHeartbeats 4000000 in
theorem c_X8_cup (E : jE) (o a : Nat) (fs : List Value) (f : Int → Int) (x : Nat → Int → Int) (p w : Int) (hx : sOK x) (hr : Rel x f) (pb : -2147483648 ≤ p ∧ p < 2147483648) (wb : -2147483648 ≤ w ∧ w < 2147483648) : jMI E yX8_cup wsX8_cup rmX8_cup [.ref o, .int (jI p), .int (jI w)] (wMs E o a fs f) (mCup x p w) (wMs E o a fs f) := by
  refine jMI_of (cc := cX8_cup) (maxL := 6) (ret := (some .int)) [(0, .ref o), (1, .int (jI p)), (2, .int (jI w))] (by decide) rfl rfl (Nat.le_of_ble_eq_true rfl) (fun C => ?_)
  show jG mX8_cup E C (jQi E C (mCup x p w) (wMs E o a fs f)) 0 0 0 [(0, .ref o), (1, .int (jI p)), (2, .int (jI w))] [] (wMs E o a fs f)
  have r9 : 0 ≤ x 9 0 ∧ x 9 0 ≤ 8 := hx 9
  have r0 : ∀ i, 0 ≤ x 0 i ∧ x 0 i < 404000 := hx 0
  have r1 : ∀ i, 0 ≤ x 1 i ∧ x 1 i ≤ 3 := hx 1
  have r2 : ∀ i, 0 ≤ x 2 i ∧ x 2 i ≤ 2 := hx 2
  have r3 : ∀ i, -1 ≤ x 3 i ∧ x 3 i ≤ 4 := hx 3
  have r4 : ∀ i, 0 ≤ x 4 i ∧ x 4 i < 404000 := hx 4
  have r5 : ∀ i, 0 ≤ x 5 i ∧ x 5 i ≤ 512 ∧ (i < 4 → x 5 i ≤ 20) := hx 5
  have r6 : ∀ i, 0 ≤ x 6 i ∧ x 6 i < 404000 := hx 6
  have hrr := Rel_RelR hr
  have q1 : (0 ≤ p ∧ p ≤ 11 ∧ (if 0 ≤ p ∧ p ≤ 11 then (1 : Int) else 0) = 1) ∨ (¬ (0 ≤ p ∧ p ≤ 11) ∧ (if 0 ≤ p ∧ p ≤ 11 then (1 : Int) else 0) = 0) := by split <;> omega
  have q2 : (0 ≤ w ∧ w ≤ 3 ∧ (if 0 ≤ w ∧ w ≤ 3 then (1 : Int) else 0) = 1) ∨ (¬ (0 ≤ w ∧ w ≤ 3) ∧ (if 0 ≤ w ∧ w ≤ 3 then (1 : Int) else 0) = 0) := by split <;> omega
  refine j_iload_n 1 1 dX8_cup_0 rfl rfl ?_
  refine j_iconst 2 dX8_cup_1 rfl ?_
  refine j_bipush 4 dX8_cup_2 rfl (by decide) ?_
  refine j_callSi [] 7 [_, _] (c_X8_in E _ _ _ (by omega) (by omega) (by omega)) rfl kX8_cup_X8_in rfl rfl rfl rfl rfl (Nat.le_of_ble_eq_true rfl) (by decide) dX8_cup_4 rfl ?_
  refine j_if_eq 19 10 dX8_cup_7 rfl (by decide) (by omega) (fun h_7 => ?_) (fun h_7 => ?_)
  · skip
    have e : mCup x p w = -1 := by unfold mCup; exact if_pos (by omega)
    rw [e]
    refine j_iconst 20 dX8_cup_19 rfl ?_
    exact j_iret dX8_cup_20 rfl (by first | rfl | (congr 1; omega)) (by rfl)
  · skip
    refine j_iload_n 2 11 dX8_cup_10 rfl rfl ?_
    refine j_iconst 12 dX8_cup_11 rfl ?_
    refine j_iconst 13 dX8_cup_12 rfl ?_
    refine j_callSi [] 16 [_, _] (c_X8_in E _ _ _ (by omega) (by omega) (by omega)) rfl kX8_cup_X8_in rfl rfl rfl rfl rfl (Nat.le_of_ble_eq_true rfl) (by decide) dX8_cup_13 rfl ?_
    refine j_if_ne 21 19 dX8_cup_16 rfl (by decide) (by omega) (fun h_16 => ?_) (fun h_16 => ?_)
    · skip
      obtain ⟨c1, c2, c3⟩ := hr.2.2.2.1 p (by omega) (by omega)
      have r2p := r2 p
      have r3p := r3 p
      refine j_iload_n 1 22 dX8_cup_21 rfl rfl ?_
      refine j_callSi [] 25 [_, _] (c_X8_cupAt E _ ) rfl kX8_cup_X8_cupAt rfl rfl rfl rfl rfl (Nat.le_of_ble_eq_true rfl) (by decide) dX8_cup_22 rfl ?_
      refine j_istore_n 26 [_, _, _, _] dX8_cup_25 rfl (by decide) rfl ?_
      refine j_iconst 27 dX8_cup_26 rfl ?_
      refine j_istore 29 [_, _, _, _, _] dX8_cup_27 rfl (by decide) rfl ?_
      refine j_iconst 30 dX8_cup_29 rfl ?_
      refine j_istore 32 [_, _, _, _, _, _] dX8_cup_30 rfl (by decide) rfl ?_
      have key32 : ∀ (fu i : Nat), (x 2 p).toNat < i + fu → (i : Int) ≤ x 2 p → jG mX8_cup E C (jQi E C (mCup x p w) (wMs E o a fs f)) 0 0 32 [(0, .ref o), (1, .int (jI p)), (2, .int (jI w)), (3, .int (jI (37 + 4 * p))), (4, .int (jI (jSum (fun i => tW (x 4 (2 * p + i))) i))), (5, .int (jI (i : Int)))] [] (wMs E o a fs f) := by
        intro fu
        induction fu with
        | zero => intro i h1 h2; exact absurd h1 (by omega)
        | succ fu ih =>
          intro i h1 h2
          refine j_iload 5 34 dX8_cup_32 rfl rfl ?_
          refine j_aload_n 0 35 dX8_cup_34 rfl rfl ?_
          refine j_get 0 0 1 38 in_X8_cup_X8 dX8_cup_35 rfl rfl rfl (by decide) rfl rfl ?_
          refine j_iload_n 3 39 dX8_cup_38 rfl rfl ?_
          refine j_iald 1 40 dX8_cup_39 rfl rfl (by decide) (by omega) ?_
          refine j_icmp_ge 68 43 dX8_cup_40 rfl (by decide) (by omega) (by omega) (fun h_40 => ?_) (fun h_40 => ?_)
          · skip
            obtain rfl : i = (x 2 p).toNat := by omega
            refine j_iload_n 2 69 dX8_cup_68 rfl rfl ?_
            rcases (show w = 0 ∨ w = 1 ∨ w = 2 ∨ (w < 0 ∨ 2 < w) by omega) with hc | hc | hc | hc
            · skip
              have e : mCup x p w = x 2 p := by unfold mCup; rw [if_neg (by omega), if_pos (by omega)]
              rw [e]
              refine j_tabIn 0 96 hc dX8_cup_69 (by decide) rfl (by decide) ?_
              refine j_aload_n 0 97 dX8_cup_96 rfl rfl ?_
              refine j_get 0 0 1 100 in_X8_cup_X8 dX8_cup_97 rfl rfl rfl (by decide) rfl rfl ?_
              refine j_iload_n 3 101 dX8_cup_100 rfl rfl ?_
              refine j_iald 1 102 dX8_cup_101 rfl rfl (by decide) (by omega) ?_
              exact j_iret dX8_cup_102 rfl (by first | rfl | (congr 1; omega)) (by rfl)
            · skip
              refine j_tabIn 1 103 hc dX8_cup_69 (by decide) rfl (by decide) ?_
              refine j_aload_n 0 104 dX8_cup_103 rfl rfl ?_
              refine j_get 0 0 1 107 in_X8_cup_X8 dX8_cup_104 rfl rfl rfl (by decide) rfl rfl ?_
              refine j_iload_n 3 108 dX8_cup_107 rfl rfl ?_
              refine j_iconst 109 dX8_cup_108 rfl ?_
              refine j_iadd 110 dX8_cup_109 rfl ?_
              refine j_iald 1 111 dX8_cup_110 rfl rfl (by decide) (by omega) ?_
              refine j_if_le 127 114 dX8_cup_111 rfl (by decide) (by omega) (fun h_111 => ?_) (fun h_111 => ?_)
              · skip
                have e : mCup x p w = -4 := by unfold mCup; rw [if_neg (by omega), if_neg (by omega), if_pos (by omega), if_pos (by omega)]
                rw [e]
                refine j_bipush 129 dX8_cup_127 rfl (by decide) ?_
                exact j_iret dX8_cup_129 rfl (by first | rfl | (congr 1; omega)) (by rfl)
              · skip
                have e : mCup x p w = x 3 p := by unfold mCup; rw [if_neg (by omega), if_neg (by omega), if_pos (by omega), if_neg (by omega)]
                rw [e]
                refine j_aload_n 0 115 dX8_cup_114 rfl rfl ?_
                refine j_get 0 0 1 118 in_X8_cup_X8 dX8_cup_115 rfl rfl rfl (by decide) rfl rfl ?_
                refine j_iload_n 3 119 dX8_cup_118 rfl rfl ?_
                refine j_iconst 120 dX8_cup_119 rfl ?_
                refine j_iadd 121 dX8_cup_120 rfl ?_
                refine j_iald 1 122 dX8_cup_121 rfl rfl (by decide) (by omega) ?_
                refine j_iconst 123 dX8_cup_122 rfl ?_
                refine j_isub 124 dX8_cup_123 rfl ?_
                refine j_goto 129 dX8_cup_124 (by decide) ?_
                exact j_iret dX8_cup_129 rfl (by first | rfl | (congr 1; omega)) (by rfl)
            · skip
              have e : mCup x p w = jSum (fun i => tW (x 4 (2 * p + i))) (x 2 p).toNat := by unfold mCup; rw [if_neg (by omega), if_neg (by omega), if_neg (by omega), if_pos (by omega)]
              rw [e]
              refine j_tabIn 2 130 hc dX8_cup_69 (by decide) rfl (by decide) ?_
              refine j_iload 4 132 dX8_cup_130 rfl rfl ?_
              exact j_iret dX8_cup_132 rfl (by first | rfl | (congr 1; omega)) (by rfl)
            · skip
              have e : mCup x p w = sTtf x p := by unfold mCup; rw [if_neg (by omega), if_neg (by omega), if_neg (by omega), if_neg (by omega)]
              rw [e]
              refine j_tabOut 133 dX8_cup_69 (by omega) hc (by decide) ?_
              refine j_aload_n 0 134 dX8_cup_133 rfl rfl ?_
              refine j_get 0 0 1 137 in_X8_cup_X8 dX8_cup_134 rfl rfl rfl (by decide) rfl rfl ?_
              refine j_iload_n 3 138 dX8_cup_137 rfl rfl ?_
              refine j_iald 1 139 dX8_cup_138 rfl rfl (by decide) (by omega) ?_
              refine j_if_ne 147 142 dX8_cup_139 rfl (by decide) (by omega) (fun h_139 => ?_) (fun h_139 => ?_)
              · skip
                refine j_aload_n 0 148 dX8_cup_147 rfl rfl ?_
                refine j_iload_n 1 149 dX8_cup_148 rfl rfl ?_
                refine j_callVi 0 [0, 1] 152 [_, _] (c_X8_ticksOf E _ _ _ f x _ (by exact hx) (by exact hr) (by omega) (by omega)) rfl kX8_cup_X8_ticksOf rfl rfl rfl rfl rfl rfl rfl (Nat.le_of_ble_eq_true rfl) (by decide) dX8_cup_149 rfl ?_
                exact j_iret dX8_cup_152 rfl (by first | rfl | (congr 1; omega)) (by rfl)
              · skip
                have e2 : sTtf x p = -4 := if_pos (by omega)
                rw [e2]
                refine j_bipush 144 dX8_cup_142 rfl (by decide) ?_
                refine j_goto 152 dX8_cup_144 (by decide) ?_
                exact j_iret dX8_cup_152 rfl (by first | rfl | (congr 1; omega)) (by rfl)
          · skip
            have ca := c3 i (by omega) (by omega)
            have r4i := r4 (2 * p + i)
            refine j_iload 4 45 dX8_cup_43 rfl rfl ?_
            refine j_aload_n 0 46 dX8_cup_45 rfl rfl ?_
            refine j_get 0 0 1 49 in_X8_cup_X8 dX8_cup_46 rfl rfl rfl (by decide) rfl rfl ?_
            refine j_iload_n 3 50 dX8_cup_49 rfl rfl ?_
            refine j_iconst 51 dX8_cup_50 rfl ?_
            refine j_iadd 52 dX8_cup_51 rfl ?_
            refine j_iload 5 54 dX8_cup_52 rfl rfl ?_
            refine j_iadd 55 dX8_cup_54 rfl ?_
            refine j_iald 1 56 dX8_cup_55 rfl rfl (by decide) (by omega) ?_
            rw [← ca]
            refine j_callSi [] 59 [_, _] (c_X8_weightOf E _ (by omega)) rfl kX8_cup_X8_weightOf rfl rfl rfl rfl rfl (Nat.le_of_ble_eq_true rfl) (by decide) dX8_cup_56 rfl ?_
            refine j_iadd 60 dX8_cup_59 rfl ?_
            refine j_istore 62 [_, _, _, _, _, _] dX8_cup_60 rfl (by decide) rfl ?_
            refine j_iinc 5 65 [_, _, _, _, _, _] dX8_cup_62 rfl rfl (by decide) rfl ?_
            refine j_goto 32 dX8_cup_65 (by decide) ?_
            refine j_perm [2, 3, 4, 5, 1, 0] rfl ?_
            exact ih (i + 1) (by omega) (by omega)
      refine j_perm [3, 4, 5, 2, 1, 0] rfl ?_
      exact key32 ((x 2 p).toNat + 1) 0 (by omega) (by omega)
    · skip
      have e : mCup x p w = -1 := by unfold mCup; exact if_pos (by omega)
      rw [e]
      refine j_iconst 20 dX8_cup_19 rfl ?_
      exact j_iret dX8_cup_20 rfl (by first | rfl | (congr 1; omega)) (by rfl)
theorem kX8_apple_X8_in : jKs mX8_apple 32 yX8_in wsX8_in rmX8_in 3 := ⟨gX8_apple_X8_in, ⟨_, _, _, _, rfl, by decide⟩, by decide +kernel, rfl, rfl, by decide⟩
set_option maxRecDepth 20000 in
theorem in_X8_apple_X8 : ∀ x ∈ u_ws RX8 TX8 11, x ∈ wsX8_apple := by decide +kernel
theorem kX8_apple_X8_boxAt : jKs mX8_apple 57 yX8_boxAt wsX8_boxAt rmX8_boxAt 1 := ⟨gX8_apple_X8_boxAt, ⟨_, _, _, _, rfl, by decide⟩, by decide +kernel, rfl, rfl, by decide⟩
theorem kX8_apple_X8_isWrong : jKv mX8_apple 141 yX8_isWrong wsX8_isWrong rmX8_isWrong 2 := ⟨gX8_apple_X8_isWrong, ⟨_, _, _, _, rfl, by decide⟩, by decide +kernel, rfl, rfl, by decide⟩
theorem kX8_apple_X8_bruiseOf : jKs mX8_apple 40 yX8_bruiseOf wsX8_bruiseOf rmX8_bruiseOf 1 := ⟨gX8_apple_X8_bruiseOf, ⟨_, _, _, _, rfl, by decide⟩, by decide +kernel, rfl, rfl, by decide⟩
theorem kX8_apple_X8_redOf : jKs mX8_apple 36 yX8_redOf wsX8_redOf rmX8_redOf 1 := ⟨gX8_apple_X8_redOf, ⟨_, _, _, _, rfl, by decide⟩, by decide +kernel, rfl, rfl, by decide⟩
theorem kX8_apple_X8_weightOf : jKs mX8_apple 43 yX8_weightOf wsX8_weightOf rmX8_weightOf 1 := ⟨gX8_apple_X8_weightOf, ⟨_, _, _, _, rfl, by decide⟩, by decide +kernel, rfl, rfl, by decide⟩
set_option maxRecDepth 100000 in
set_option maxHeartbeats 4000000 in
theorem c_X8_apple (E : jE) (o a : Nat) (fs : List Value) (f : Int → Int) (x : Nat → Int → Int) (l i w : Int) (hx : sOK x) (hr : Rel x f) (lb : -2147483648 ≤ l ∧ l < 2147483648) (ib : -2147483648 ≤ i ∧ i < 2147483648) (wb : -2147483648 ≤ w ∧ w < 2147483648) : jMI E yX8_apple wsX8_apple rmX8_apple [.ref o, .int (jI l), .int (jI i), .int (jI w)] (wMs E o a fs f) (mApple x l i w) (wMs E o a fs f) := by
  refine jMI_of (cc := cX8_apple) (maxL := 5) (ret := (some .int)) [(0, .ref o), (1, .int (jI l)), (2, .int (jI i)), (3, .int (jI w))] (by decide) rfl rfl (Nat.le_of_ble_eq_true rfl) (fun C => ?_)
  show jG mX8_apple E C (jQi E C (mApple x l i w) (wMs E o a fs f)) 0 0 0 [(0, .ref o), (1, .int (jI l)), (2, .int (jI i)), (3, .int (jI w))] [] (wMs E o a fs f)
  have r9 : 0 ≤ x 9 0 ∧ x 9 0 ≤ 8 := hx 9
  have r0 : ∀ i, 0 ≤ x 0 i ∧ x 0 i < 404000 := hx 0
  have r1 : ∀ i, 0 ≤ x 1 i ∧ x 1 i ≤ 3 := hx 1
  have r2 : ∀ i, 0 ≤ x 2 i ∧ x 2 i ≤ 2 := hx 2
  have r3 : ∀ i, -1 ≤ x 3 i ∧ x 3 i ≤ 4 := hx 3
  have r4 : ∀ i, 0 ≤ x 4 i ∧ x 4 i < 404000 := hx 4
  have r5 : ∀ i, 0 ≤ x 5 i ∧ x 5 i ≤ 512 ∧ (i < 4 → x 5 i ≤ 20) := hx 5
  have r6 : ∀ i, 0 ≤ x 6 i ∧ x 6 i < 404000 := hx 6
  have hrr := Rel_RelR hr
  have q1 : (0 ≤ l ∧ l ≤ 4 ∧ (if 0 ≤ l ∧ l ≤ 4 then (1 : Int) else 0) = 1) ∨ (¬ (0 ≤ l ∧ l ≤ 4) ∧ (if 0 ≤ l ∧ l ≤ 4 then (1 : Int) else 0) = 0) := by split <;> omega
  have q2 : (0 ≤ w ∧ w ≤ 3 ∧ (if 0 ≤ w ∧ w ≤ 3 then (1 : Int) else 0) = 1) ∨ (¬ (0 ≤ w ∧ w ≤ 3) ∧ (if 0 ≤ w ∧ w ≤ 3 then (1 : Int) else 0) = 0) := by split <;> omega
  refine j_iload_n 1 1 dX8_apple_0 rfl rfl ?_
  refine j_iconst 2 dX8_apple_1 rfl ?_
  refine j_iconst 3 dX8_apple_2 rfl ?_
  refine j_callSi [] 6 [_, _] (c_X8_in E _ _ _ (by omega) (by omega) (by omega)) rfl kX8_apple_X8_in rfl rfl rfl rfl rfl (Nat.le_of_ble_eq_true rfl) (by decide) dX8_apple_3 rfl ?_
  refine j_if_eq 22 9 dX8_apple_6 rfl (by decide) (by omega) (fun h_6 => ?_) (fun h_6 => ?_)
  · skip
    have e : mApple x l i w = -1 := by unfold mApple; exact if_pos (by omega)
    rw [e]
    refine j_iconst 23 dX8_apple_22 rfl ?_
    exact j_iret dX8_apple_23 rfl (by first | rfl | (congr 1; omega)) (by rfl)
  · skip
    refine j_iload_n 2 10 dX8_apple_9 rfl rfl ?_
    refine j_if_lt 22 13 dX8_apple_10 rfl (by decide) (by omega) (fun h_10 => ?_) (fun h_10 => ?_)
    · skip
      have e : mApple x l i w = -1 := by unfold mApple; exact if_pos (by omega)
      rw [e]
      refine j_iconst 23 dX8_apple_22 rfl ?_
      exact j_iret dX8_apple_23 rfl (by first | rfl | (congr 1; omega)) (by rfl)
    · skip
      refine j_iload_n 3 14 dX8_apple_13 rfl rfl ?_
      refine j_iconst 15 dX8_apple_14 rfl ?_
      refine j_iconst 16 dX8_apple_15 rfl ?_
      refine j_callSi [] 19 [_, _] (c_X8_in E _ _ _ (by omega) (by omega) (by omega)) rfl kX8_apple_X8_in rfl rfl rfl rfl rfl (Nat.le_of_ble_eq_true rfl) (by decide) dX8_apple_16 rfl ?_
      refine j_if_ne 24 22 dX8_apple_19 rfl (by decide) (by omega) (fun h_19 => ?_) (fun h_19 => ?_)
      · skip
        obtain ⟨bl, bk⟩ := hr.2.2.2.2.1 l (by omega) (by omega)
        have r5l := r5 l
        have bb : 90 ≤ bxA l ∧ bxA l ≤ 176 := by unfold bxA; split <;> omega
        have lim : bxA l + x 5 l ≤ 1200 := by unfold bxA; split <;> omega
        refine j_iload_n 2 25 dX8_apple_24 rfl rfl ?_
        refine j_aload_n 0 26 dX8_apple_25 rfl rfl ?_
        refine j_get 0 0 1 29 in_X8_apple_X8 dX8_apple_26 rfl rfl rfl (by decide) rfl rfl ?_
        refine j_bipush 31 dX8_apple_29 rfl (by decide) ?_
        refine j_iload_n 1 32 dX8_apple_31 rfl rfl ?_
        refine j_iadd 33 dX8_apple_32 rfl ?_
        refine j_iald 1 34 dX8_apple_33 rfl rfl (by decide) (by omega) ?_
        refine j_icmp_lt 40 37 dX8_apple_34 rfl (by decide) (by omega) (by omega) (fun h_34 => ?_) (fun h_34 => ?_)
        · skip
          have ei := bk i (by omega) (by omega)
          have r6i := r6 (l * 20 + i)
          have w01 := sWr_01 x l (x 6 (l * 20 + i))
          refine j_aload_n 0 41 dX8_apple_40 rfl rfl ?_
          refine j_get 0 0 1 44 in_X8_apple_X8 dX8_apple_41 rfl rfl rfl (by decide) rfl rfl ?_
          refine j_iload_n 1 45 dX8_apple_44 rfl rfl ?_
          refine j_callSi [] 48 [_, _] (c_X8_boxAt E _ (by omega)) rfl kX8_apple_X8_boxAt rfl rfl rfl rfl rfl (Nat.le_of_ble_eq_true rfl) (by decide) dX8_apple_45 rfl ?_
          refine j_iload_n 2 49 dX8_apple_48 rfl rfl ?_
          refine j_iadd 50 dX8_apple_49 rfl ?_
          refine j_iald 1 51 dX8_apple_50 rfl rfl (by decide) (by omega) ?_
          rw [← ei]
          refine j_istore 53 [_, _, _, _, _] dX8_apple_51 rfl (by decide) rfl ?_
          refine j_iload_n 4 54 dX8_apple_53 rfl rfl ?_
          refine j_if_ne 65 57 dX8_apple_54 rfl (by decide) (by omega) (fun h_54 => ?_) (fun h_54 => ?_)
          · skip
            refine j_iload_n 4 66 dX8_apple_65 rfl rfl ?_
            refine j_iconst 67 dX8_apple_66 rfl ?_
            refine j_icmp_ne 78 70 dX8_apple_67 rfl (by decide) (by omega) (by omega) (fun h_67 => ?_) (fun h_67 => ?_)
            · skip
              refine j_iload_n 4 79 dX8_apple_78 rfl rfl ?_
              refine j_iconst 80 dX8_apple_79 rfl ?_
              refine j_icmp_ne 91 83 dX8_apple_80 rfl (by decide) (by omega) (by omega) (fun h_80 => ?_) (fun h_80 => ?_)
              · skip
                have e : mApple x l i w = sWr x l (x 6 (l * 20 + i)) := by unfold mApple; rw [if_neg (by omega), if_neg (by omega), if_neg (by omega), if_neg (by omega), if_neg (by omega)]
                rw [e]
                refine j_aload_n 1 92 dX8_apple_91 rfl rfl ?_
                refine j_iload_n 2 93 dX8_apple_92 rfl rfl ?_
                refine j_iload 0 95 dX8_apple_93 rfl rfl ?_
                refine j_callVi 0 [0, 1] 98 [_, _] (c_X8_isWrong E _ _ _ _ _ _ _ (by exact hx) (by exact hrr) (by omega) (by omega)) rfl kX8_apple_X8_isWrong rfl rfl rfl rfl rfl rfl rfl (Nat.le_of_ble_eq_true rfl) (by decide) dX8_apple_95 rfl ?_
                refine j_if_eq 105 101 dX8_apple_98 rfl (by decide) (by omega) (fun h_98 => ?_) (fun h_98 => ?_)
                · skip
                  rw [h_98]
                  refine j_iconst 106 dX8_apple_105 rfl ?_
                  exact j_iret dX8_apple_106 rfl (by first | rfl | (congr 1; omega)) (by rfl)
                · skip
                  rw [show sWr x l (x 6 (l * 20 + i)) = 1 by omega]
                  refine j_iconst 102 dX8_apple_101 rfl ?_
                  refine j_goto 106 dX8_apple_102 (by decide) ?_
                  exact j_iret dX8_apple_106 rfl (by first | rfl | (congr 1; omega)) (by rfl)
              · skip
                have e : mApple x l i w = tB (x 6 (l * 20 + i)) := by unfold mApple; rw [if_neg (by omega), if_neg (by omega), if_neg (by omega), if_neg (by omega), if_pos (by omega)]
                rw [e]
                refine j_iload 0 85 dX8_apple_83 rfl rfl ?_
                refine j_callSi [] 88 [_, _] (c_X8_bruiseOf E _ (by omega)) rfl kX8_apple_X8_bruiseOf rfl rfl rfl rfl rfl (Nat.le_of_ble_eq_true rfl) (by decide) dX8_apple_85 rfl ?_
                refine j_goto 106 dX8_apple_88 (by decide) ?_
                exact j_iret dX8_apple_106 rfl (by first | rfl | (congr 1; omega)) (by rfl)
            · skip
              have e : mApple x l i w = tR (x 6 (l * 20 + i)) := by unfold mApple; rw [if_neg (by omega), if_neg (by omega), if_neg (by omega), if_pos (by omega)]
              rw [e]
              refine j_iload 0 72 dX8_apple_70 rfl rfl ?_
              refine j_callSi [] 75 [_, _] (c_X8_redOf E _ (by omega)) rfl kX8_apple_X8_redOf rfl rfl rfl rfl rfl (Nat.le_of_ble_eq_true rfl) (by decide) dX8_apple_72 rfl ?_
              refine j_goto 106 dX8_apple_75 (by decide) ?_
              exact j_iret dX8_apple_106 rfl (by first | rfl | (congr 1; omega)) (by rfl)
          · skip
            have e : mApple x l i w = tW (x 6 (l * 20 + i)) := by unfold mApple; rw [if_neg (by omega), if_neg (by omega), if_pos (by omega)]
            rw [e]
            refine j_iload 0 59 dX8_apple_57 rfl rfl ?_
            refine j_callSi [] 62 [_, _] (c_X8_weightOf E _ (by omega)) rfl kX8_apple_X8_weightOf rfl rfl rfl rfl rfl (Nat.le_of_ble_eq_true rfl) (by decide) dX8_apple_59 rfl ?_
            refine j_goto 106 dX8_apple_62 (by decide) ?_
            exact j_iret dX8_apple_106 rfl (by first | rfl | (congr 1; omega)) (by rfl)
        · skip
          have e : mApple x l i w = -4 := by unfold mApple; rw [if_neg (by omega), if_pos (by omega)]
          rw [e]
          refine j_bipush 39 dX8_apple_37 rfl (by decide) ?_
          exact j_iret dX8_apple_39 rfl (by first | rfl | (congr 1; omega)) (by rfl)
      · skip
        have e : mApple x l i w = -1 := by unfold mApple; exact if_pos (by omega)
        rw [e]
        refine j_iconst 23 dX8_apple_22 rfl ?_
        exact j_iret dX8_apple_23 rfl (by first | rfl | (congr 1; omega)) (by rfl)
theorem kX8_box_X8_in : jKs mX8_box 32 yX8_in wsX8_in rmX8_in 3 := ⟨gX8_box_X8_in, ⟨_, _, _, _, rfl, by decide⟩, by decide +kernel, rfl, rfl, by decide⟩
set_option maxRecDepth 20000 in
theorem in_X8_box_X8 : ∀ x ∈ u_ws RX8 TX8 11, x ∈ wsX8_box := by decide +kernel
theorem kX8_box_X8_weightIn : jKv mX8_box 144 yX8_weightIn wsX8_weightIn rmX8_weightIn 1 := ⟨gX8_box_X8_weightIn, ⟨_, _, _, _, rfl, by decide⟩, by decide +kernel, rfl, rfl, by decide⟩
theorem kX8_box_X8_wrongIn : jKv mX8_box 147 yX8_wrongIn wsX8_wrongIn rmX8_wrongIn 1 := ⟨gX8_box_X8_wrongIn, ⟨_, _, _, _, rfl, by decide⟩, by decide +kernel, rfl, rfl, by decide⟩
theorem kX8_box_X8_leastRed : jKv mX8_box 150 yX8_leastRed wsX8_leastRed rmX8_leastRed 1 := ⟨gX8_box_X8_leastRed, ⟨_, _, _, _, rfl, by decide⟩, by decide +kernel, rfl, rfl, by decide⟩
theorem kX8_box_X8_worstBruise : jKv mX8_box 153 yX8_worstBruise wsX8_worstBruise rmX8_worstBruise 1 := ⟨gX8_box_X8_worstBruise, ⟨_, _, _, _, rfl, by decide⟩, by decide +kernel, rfl, rfl, by decide⟩
set_option maxRecDepth 100000 in
set_option maxHeartbeats 4000000 in
theorem c_X8_box (E : jE) (o a : Nat) (fs : List Value) (f : Int → Int) (x : Nat → Int → Int) (l w : Int) (hx : sOK x) (hr : Rel x f) (lb : -2147483648 ≤ l ∧ l < 2147483648) (wb : -2147483648 ≤ w ∧ w < 2147483648) : jMI E yX8_box wsX8_box rmX8_box [.ref o, .int (jI l), .int (jI w)] (wMs E o a fs f) (mBox x l w) (wMs E o a fs f) := by
  refine jMI_of (cc := cX8_box) (maxL := 3) (ret := (some .int)) [(0, .ref o), (1, .int (jI l)), (2, .int (jI w))] (by decide) rfl rfl (Nat.le_of_ble_eq_true rfl) (fun C => ?_)
  show jG mX8_box E C (jQi E C (mBox x l w) (wMs E o a fs f)) 0 0 0 [(0, .ref o), (1, .int (jI l)), (2, .int (jI w))] [] (wMs E o a fs f)
  have r9 : 0 ≤ x 9 0 ∧ x 9 0 ≤ 8 := hx 9
  have r0 : ∀ i, 0 ≤ x 0 i ∧ x 0 i < 404000 := hx 0
  have r1 : ∀ i, 0 ≤ x 1 i ∧ x 1 i ≤ 3 := hx 1
  have r2 : ∀ i, 0 ≤ x 2 i ∧ x 2 i ≤ 2 := hx 2
  have r3 : ∀ i, -1 ≤ x 3 i ∧ x 3 i ≤ 4 := hx 3
  have r4 : ∀ i, 0 ≤ x 4 i ∧ x 4 i < 404000 := hx 4
  have r5 : ∀ i, 0 ≤ x 5 i ∧ x 5 i ≤ 512 ∧ (i < 4 → x 5 i ≤ 20) := hx 5
  have r6 : ∀ i, 0 ≤ x 6 i ∧ x 6 i < 404000 := hx 6
  have hrr := Rel_RelR hr
  have q1 : (0 ≤ l ∧ l ≤ 4 ∧ (if 0 ≤ l ∧ l ≤ 4 then (1 : Int) else 0) = 1) ∨ (¬ (0 ≤ l ∧ l ≤ 4) ∧ (if 0 ≤ l ∧ l ≤ 4 then (1 : Int) else 0) = 0) := by split <;> omega
  refine j_iload_n 1 1 dX8_box_0 rfl rfl ?_
  refine j_iconst 2 dX8_box_1 rfl ?_
  refine j_iconst 3 dX8_box_2 rfl ?_
  refine j_callSi [] 6 [_, _] (c_X8_in E _ _ _ (by omega) (by omega) (by omega)) rfl kX8_box_X8_in rfl rfl rfl rfl rfl (Nat.le_of_ble_eq_true rfl) (by decide) dX8_box_3 rfl ?_
  refine j_if_ne 11 9 dX8_box_6 rfl (by decide) (by omega) (fun h_6 => ?_) (fun h_6 => ?_)
  · skip
    obtain ⟨bl, bk⟩ := hr.2.2.2.2.1 l (by omega) (by omega)
    have r5l := r5 l
    have r8 : ∀ i, x 8 i = 0 ∨ x 8 i = 1 := hx 8
    have r8l := r8 l
    refine j_iload_n 2 12 dX8_box_11 rfl rfl ?_
    rcases (show w = 0 ∨ w = 1 ∨ w = 2 ∨ w = 3 ∨ w = 4 ∨ w = 5 ∨ (w < 0 ∨ 5 < w) by omega) with hc | hc | hc | hc | hc | hc | hc
    · skip
      have e : mBox x l w = x 5 l := by unfold mBox; rw [if_neg (by omega), if_pos (by omega)]
      rw [e]
      refine j_tabIn 0 52 hc dX8_box_12 (by decide) rfl (by decide) ?_
      refine j_aload_n 0 53 dX8_box_52 rfl rfl ?_
      refine j_get 0 0 1 56 in_X8_box_X8 dX8_box_53 rfl rfl rfl (by decide) rfl rfl ?_
      refine j_bipush 58 dX8_box_56 rfl (by decide) ?_
      refine j_iload_n 1 59 dX8_box_58 rfl rfl ?_
      refine j_iadd 60 dX8_box_59 rfl ?_
      refine j_iald 1 61 dX8_box_60 rfl rfl (by decide) (by omega) ?_
      exact j_iret dX8_box_61 rfl (by first | rfl | (congr 1; omega)) (by rfl)
    · skip
      have e : mBox x l w = jSum (fun i => tW (x 6 (l * 20 + i))) (x 5 l).toNat := by unfold mBox; rw [if_neg (by omega), if_neg (by omega), if_pos (by omega)]
      rw [e]
      refine j_tabIn 1 62 hc dX8_box_12 (by decide) rfl (by decide) ?_
      refine j_aload_n 0 63 dX8_box_62 rfl rfl ?_
      refine j_iload_n 1 64 dX8_box_63 rfl rfl ?_
      refine j_callVi 0 [0, 1] 67 [_, _] (c_X8_weightIn E _ _ _ _ _ _ (by exact hx) (by exact hr) (by omega)) rfl kX8_box_X8_weightIn rfl rfl rfl rfl rfl rfl rfl (Nat.le_of_ble_eq_true rfl) (by decide) dX8_box_64 rfl ?_
      exact j_iret dX8_box_67 rfl (by first | rfl | (congr 1; omega)) (by rfl)
    · skip
      have e : mBox x l w = sWi x l := by unfold mBox; rw [if_neg (by omega), if_neg (by omega), if_neg (by omega), if_pos (by omega)]
      rw [e]
      refine j_tabIn 2 68 hc dX8_box_12 (by decide) rfl (by decide) ?_
      refine j_aload_n 0 69 dX8_box_68 rfl rfl ?_
      refine j_iload_n 1 70 dX8_box_69 rfl rfl ?_
      refine j_callVi 0 [0, 1] 73 [_, _] (c_X8_wrongIn E _ _ _ _ _ _ (by exact hx) (by exact hr) (by omega)) rfl kX8_box_X8_wrongIn rfl rfl rfl rfl rfl rfl rfl (Nat.le_of_ble_eq_true rfl) (by decide) dX8_box_70 rfl ?_
      exact j_iret dX8_box_73 rfl (by first | rfl | (congr 1; omega)) (by rfl)
    · skip
      have e : mBox x l w = lrU (x 6) (l * 20) (x 5 l).toNat := by unfold mBox; rw [if_neg (by omega), if_neg (by omega), if_neg (by omega), if_neg (by omega), if_pos (by omega)]
      rw [e]
      refine j_tabIn 3 74 hc dX8_box_12 (by decide) rfl (by decide) ?_
      refine j_aload_n 0 75 dX8_box_74 rfl rfl ?_
      refine j_iload_n 1 76 dX8_box_75 rfl rfl ?_
      refine j_callVi 0 [0, 1] 79 [_, _] (c_X8_leastRed E _ _ _ _ _ _ (by exact hx) (by exact hr) (by omega)) rfl kX8_box_X8_leastRed rfl rfl rfl rfl rfl rfl rfl (Nat.le_of_ble_eq_true rfl) (by decide) dX8_box_76 rfl ?_
      exact j_iret dX8_box_79 rfl (by first | rfl | (congr 1; omega)) (by rfl)
    · skip
      have e : mBox x l w = gbU (x 6) (l * 20) (x 5 l).toNat := by unfold mBox; rw [if_neg (by omega), if_neg (by omega), if_neg (by omega), if_neg (by omega), if_neg (by omega), if_pos (by omega)]
      rw [e]
      refine j_tabIn 4 80 hc dX8_box_12 (by decide) rfl (by decide) ?_
      refine j_aload_n 0 81 dX8_box_80 rfl rfl ?_
      refine j_iload_n 1 82 dX8_box_81 rfl rfl ?_
      refine j_callVi 0 [0, 1] 85 [_, _] (c_X8_worstBruise E _ _ _ _ _ _ (by exact hx) (by exact hr) (by omega)) rfl kX8_box_X8_worstBruise rfl rfl rfl rfl rfl rfl rfl (Nat.le_of_ble_eq_true rfl) (by decide) dX8_box_82 rfl ?_
      exact j_iret dX8_box_85 rfl (by first | rfl | (congr 1; omega)) (by rfl)
    · skip
      refine j_tabIn 5 86 hc dX8_box_12 (by decide) rfl (by decide) ?_
      refine j_iload_n 1 87 dX8_box_86 rfl rfl ?_
      refine j_iconst 88 dX8_box_87 rfl ?_
      refine j_icmp_ne 95 91 dX8_box_88 rfl (by decide) (by omega) (by omega) (fun h_88 => ?_) (fun h_88 => ?_)
      · skip
        have wl := rWat_at hr.2.1 (l := l) (by omega)
        have e : mBox x l w = x 8 l := by
          unfold mBox
          rw [if_neg (by omega), if_neg (by omega), if_neg (by omega), if_neg (by omega), if_neg (by omega), if_neg (by omega)]
          split <;> omega
        rw [e, wl]
        refine j_aload_n 0 96 dX8_box_95 rfl rfl ?_
        refine j_get 0 0 1 99 in_X8_box_X8 dX8_box_96 rfl rfl rfl (by decide) rfl rfl ?_
        refine j_iconst 100 dX8_box_99 rfl ?_
        refine j_iald 1 101 dX8_box_100 rfl rfl (by decide) (by omega) ?_
        refine j_iload_n 1 102 dX8_box_101 rfl rfl ?_
        refine j_ishr_and 103 104 105 dX8_box_102 dX8_box_103 dX8_box_104 rfl rfl rfl hr.2.1.1 (by omega) ?_
        exact j_iret dX8_box_105 rfl (by first | rfl | (congr 1; omega)) (by rfl)
      · skip
        have e : mBox x l w = 1 := by unfold mBox; rw [if_neg (by omega), if_neg (by omega), if_neg (by omega), if_neg (by omega), if_neg (by omega), if_neg (by omega), if_pos (by omega)]
        rw [e]
        refine j_iconst 92 dX8_box_91 rfl ?_
        refine j_goto 105 dX8_box_92 (by decide) ?_
        exact j_iret dX8_box_105 rfl (by first | rfl | (congr 1; omega)) (by rfl)
    · skip
      have e : mBox x l w = -1 := by unfold mBox; exact if_pos (by omega)
      rw [e]
      refine j_tabOut 106 dX8_box_12 (by omega) hc (by decide) ?_
      refine j_iconst 107 dX8_box_106 rfl ?_
      exact j_iret dX8_box_107 rfl (by first | rfl | (congr 1; omega)) (by rfl)
  · skip
    have e : mBox x l w = -1 := by unfold mBox; exact if_pos (by omega)
    rw [e]
    refine j_iconst 10 dX8_box_9 rfl ?_
    exact j_iret dX8_box_10 rfl (by first | rfl | (congr 1; omega)) (by rfl)
theorem kX8_ruleOf_X8_isRule : jKv mX8_ruleOf 99 yX8_isRule wsX8_isRule rmX8_isRule 1 := ⟨gX8_ruleOf_X8_isRule, ⟨_, _, _, _, rfl, by decide⟩, by decide +kernel, rfl, rfl, by decide⟩
theorem kX8_ruleOf_X8_in : jKs mX8_ruleOf 32 yX8_in wsX8_in rmX8_in 3 := ⟨gX8_ruleOf_X8_in, ⟨_, _, _, _, rfl, by decide⟩, by decide +kernel, rfl, rfl, by decide⟩
theorem kX8_ruleOf_X8_isCovered : jKv mX8_ruleOf 156 yX8_isCovered wsX8_isCovered rmX8_isCovered 1 := ⟨gX8_ruleOf_X8_isCovered, ⟨_, _, _, _, rfl, by decide⟩, by decide +kernel, rfl, rfl, by decide⟩
set_option maxRecDepth 20000 in
theorem in_X8_ruleOf_X8 : ∀ x ∈ u_ws RX8 TX8 11, x ∈ wsX8_ruleOf := by decide +kernel
theorem kX8_ruleOf_X8_ruleAt : jKs mX8_ruleOf 50 yX8_ruleAt wsX8_ruleAt rmX8_ruleAt 1 := ⟨gX8_ruleOf_X8_ruleAt, ⟨_, _, _, _, rfl, by decide⟩, by decide +kernel, rfl, rfl, by decide⟩
set_option maxRecDepth 100000 in
set_option maxHeartbeats 4000000 in
theorem c_X8_ruleOf (E : jE) (o a : Nat) (fs : List Value) (f : Int → Int) (x : Nat → Int → Int) (r w : Int) (hx : sOK x) (hr : Rel x f) (rb : -2147483648 ≤ r ∧ r < 2147483648) (wb : -2147483648 ≤ w ∧ w < 2147483648) : jMI E yX8_ruleOf wsX8_ruleOf rmX8_ruleOf [.ref o, .int (jI r), .int (jI w)] (wMs E o a fs f) (mRuleOf x r w) (wMs E o a fs f) := by
  refine jMI_of (cc := cX8_ruleOf) (maxL := 3) (ret := (some .int)) [(0, .ref o), (1, .int (jI r)), (2, .int (jI w))] (by decide) rfl rfl (Nat.le_of_ble_eq_true rfl) (fun C => ?_)
  show jG mX8_ruleOf E C (jQi E C (mRuleOf x r w) (wMs E o a fs f)) 0 0 0 [(0, .ref o), (1, .int (jI r)), (2, .int (jI w))] [] (wMs E o a fs f)
  have r9 : 0 ≤ x 9 0 ∧ x 9 0 ≤ 8 := hx 9
  have r0 : ∀ i, 0 ≤ x 0 i ∧ x 0 i < 404000 := hx 0
  have r1 : ∀ i, 0 ≤ x 1 i ∧ x 1 i ≤ 3 := hx 1
  have r2 : ∀ i, 0 ≤ x 2 i ∧ x 2 i ≤ 2 := hx 2
  have r3 : ∀ i, -1 ≤ x 3 i ∧ x 3 i ≤ 4 := hx 3
  have r4 : ∀ i, 0 ≤ x 4 i ∧ x 4 i < 404000 := hx 4
  have r5 : ∀ i, 0 ≤ x 5 i ∧ x 5 i ≤ 512 ∧ (i < 4 → x 5 i ≤ 20) := hx 5
  have r6 : ∀ i, 0 ≤ x 6 i ∧ x 6 i < 404000 := hx 6
  have hrr := Rel_RelR hr
  have s4 : x 9 0 = f 4 := hr.2.2.1.1
  have rr : (0 ≤ r ∧ r < f 4 ∧ (if 0 ≤ r ∧ r < f 4 then (1 : Int) else 0) = 1) ∨ (¬ (0 ≤ r ∧ r < f 4) ∧ (if 0 ≤ r ∧ r < f 4 then (1 : Int) else 0) = 0) := by split <;> omega
  have q2 : (0 ≤ w ∧ w ≤ 4 ∧ (if 0 ≤ w ∧ w ≤ 4 then (1 : Int) else 0) = 1) ∨ (¬ (0 ≤ w ∧ w ≤ 4) ∧ (if 0 ≤ w ∧ w ≤ 4 then (1 : Int) else 0) = 0) := by split <;> omega
  have h01 := hidF_rng (x := x 0) (b := x 0 r) r.toNat 0
  refine j_aload_n 0 1 dX8_ruleOf_0 rfl rfl ?_
  refine j_iload_n 1 2 dX8_ruleOf_1 rfl rfl ?_
  refine j_callVi 0 [0, 1] 5 [_, _] (c_X8_isRule E _ _ _ _ _ (by omega) (by omega)) rfl kX8_ruleOf_X8_isRule rfl rfl rfl rfl rfl rfl rfl (Nat.le_of_ble_eq_true rfl) (by decide) dX8_ruleOf_2 rfl ?_
  refine j_if_eq 17 8 dX8_ruleOf_5 rfl (by decide) (by omega) (fun h_5 => ?_) (fun h_5 => ?_)
  · skip
    have e : mRuleOf x r w = -1 := by unfold mRuleOf; exact if_pos (by omega)
    rw [e]
    refine j_iconst 18 dX8_ruleOf_17 rfl ?_
    exact j_iret dX8_ruleOf_18 rfl (by first | rfl | (congr 1; omega)) (by rfl)
  · skip
    refine j_iload_n 2 9 dX8_ruleOf_8 rfl rfl ?_
    refine j_iconst 10 dX8_ruleOf_9 rfl ?_
    refine j_iconst 11 dX8_ruleOf_10 rfl ?_
    refine j_callSi [] 14 [_, _] (c_X8_in E _ _ _ (by omega) (by omega) (by omega)) rfl kX8_ruleOf_X8_in rfl rfl rfl rfl rfl (Nat.le_of_ble_eq_true rfl) (by decide) dX8_ruleOf_11 rfl ?_
    refine j_if_ne 19 17 dX8_ruleOf_14 rfl (by decide) (by omega) (fun h_14 => ?_) (fun h_14 => ?_)
    · skip
      obtain ⟨u1, u2, u3, u4⟩ := hr.2.2.1.2 r (by omega) (by omega)
      refine j_iload_n 2 20 dX8_ruleOf_19 rfl rfl ?_
      refine j_iconst 21 dX8_ruleOf_20 rfl ?_
      refine j_icmp_ge 38 24 dX8_ruleOf_21 rfl (by decide) (by omega) (by omega) (fun h_21 => ?_) (fun h_21 => ?_)
      · skip
        have e : mRuleOf x r w = hidF (x 0) (x 0 r) r.toNat 0 := by unfold mRuleOf; rw [if_neg (by omega), if_neg (by omega), if_neg (by omega), if_neg (by omega), if_neg (by omega)]
        have h01 := hidF_rng (x := x 0) (b := x 0 r) r.toNat 0
        rw [e]
        refine j_aload_n 0 39 dX8_ruleOf_38 rfl rfl ?_
        refine j_iload_n 1 40 dX8_ruleOf_39 rfl rfl ?_
        refine j_callVi 0 [0, 1] 43 [_, _] (c_X8_isCovered E _ _ _ _ _ _ (by exact hx) (by exact hrr) (by omega)) rfl kX8_ruleOf_X8_isCovered rfl rfl rfl rfl rfl rfl rfl (Nat.le_of_ble_eq_true rfl) (by decide) dX8_ruleOf_40 rfl ?_
        refine j_if_eq 50 46 dX8_ruleOf_43 rfl (by decide) (by omega) (fun h_43 => ?_) (fun h_43 => ?_)
        · skip
          rw [h_43]
          refine j_iconst 51 dX8_ruleOf_50 rfl ?_
          exact j_iret dX8_ruleOf_51 rfl (by first | rfl | (congr 1; omega)) (by rfl)
        · skip
          rw [show hidF (x 0) (x 0 r) r.toNat 0 = 1 by omega]
          refine j_iconst 47 dX8_ruleOf_46 rfl ?_
          refine j_goto 51 dX8_ruleOf_47 (by decide) ?_
          exact j_iret dX8_ruleOf_51 rfl (by first | rfl | (congr 1; omega)) (by rfl)
      · skip
        refine j_aload_n 0 25 dX8_ruleOf_24 rfl rfl ?_
        refine j_get 0 0 1 28 in_X8_ruleOf_X8 dX8_ruleOf_25 rfl rfl rfl (by decide) rfl rfl ?_
        refine j_iload_n 1 29 dX8_ruleOf_28 rfl rfl ?_
        refine j_callSi [] 32 [_, _] (c_X8_ruleAt E _ ) rfl kX8_ruleOf_X8_ruleAt rfl rfl rfl rfl rfl (Nat.le_of_ble_eq_true rfl) (by decide) dX8_ruleOf_29 rfl ?_
        refine j_iload_n 2 33 dX8_ruleOf_32 rfl rfl ?_
        refine j_iadd 34 dX8_ruleOf_33 rfl ?_
        refine j_iald 1 35 dX8_ruleOf_34 rfl rfl (by decide) (by omega) ?_
        have e : mRuleOf x r w = f (5 + 4 * r + w) := by
          unfold mRuleOf
          rw [if_neg (by omega)]
          rcases (show w = 0 ∨ w = 1 ∨ w = 2 ∨ w = 3 by omega) with rfl | rfl | rfl | rfl
          · rw [if_pos rfl, u1]; congr 1; omega
          · rw [if_neg (by omega), if_pos rfl, u2]
          · rw [if_neg (by omega), if_neg (by omega), if_pos rfl, u3]
          · rw [if_neg (by omega), if_neg (by omega), if_neg (by omega), if_pos rfl, u4]
        rw [e]
        refine j_goto 51 dX8_ruleOf_35 (by decide) ?_
        exact j_iret dX8_ruleOf_51 rfl (by first | rfl | (congr 1; omega)) (by rfl)
    · skip
      have e : mRuleOf x r w = -1 := by unfold mRuleOf; exact if_pos (by omega)
      rw [e]
      refine j_iconst 18 dX8_ruleOf_17 rfl ?_
      exact j_iret dX8_ruleOf_18 rfl (by first | rfl | (congr 1; omega)) (by rfl)
theorem kX8_lane_X8_isApple : jKs mX8_lane 86 yX8_isApple wsX8_isApple rmX8_isApple 3 := ⟨gX8_lane_X8_isApple, ⟨_, _, _, _, rfl, by decide⟩, by decide +kernel, rfl, rfl, by decide⟩
theorem kX8_lane_X8_in : jKs mX8_lane 32 yX8_in wsX8_in rmX8_in 3 := ⟨gX8_lane_X8_in, ⟨_, _, _, _, rfl, by decide⟩, by decide +kernel, rfl, rfl, by decide⟩
theorem kX8_lane_X8_packed : jKs mX8_lane 46 yX8_packed wsX8_packed rmX8_packed 3 := ⟨gX8_lane_X8_packed, ⟨_, _, _, _, rfl, by decide⟩, by decide +kernel, rfl, rfl, by decide⟩
theorem kX8_lane_X8_seen : jKv mX8_lane 63 yX8_seen wsX8_seen rmX8_seen 1 := ⟨gX8_lane_X8_seen, ⟨_, _, _, _, rfl, by decide⟩, by decide +kernel, rfl, rfl, by decide⟩
theorem kX8_lane_X8_laneFromLast : jKv mX8_lane 159 yX8_laneFromLast wsX8_laneFromLast rmX8_laneFromLast 1 := ⟨gX8_lane_X8_laneFromLast, ⟨_, _, _, _, rfl, by decide⟩, by decide +kernel, rfl, rfl, by decide⟩
theorem kX8_lane_X8_laneOf : jKv mX8_lane 66 yX8_laneOf wsX8_laneOf rmX8_laneOf 1 := ⟨gX8_lane_X8_laneOf, ⟨_, _, _, _, rfl, by decide⟩, by decide +kernel, rfl, rfl, by decide⟩
set_option maxRecDepth 100000 in
set_option maxHeartbeats 4000000 in
theorem c_X8_lane (E : jE) (o a : Nat) (fs : List Value) (f : Int → Int) (x : Nat → Int → Int) (u r b w : Int) (hx : sOK x) (hr : Rel x f) (ub : -2147483648 ≤ u ∧ u < 2147483648) (rb : -2147483648 ≤ r ∧ r < 2147483648) (bb : -2147483648 ≤ b ∧ b < 2147483648) (wb : -2147483648 ≤ w ∧ w < 2147483648) : jMI E yX8_lane wsX8_lane rmX8_lane [.ref o, .int (jI u), .int (jI r), .int (jI b), .int (jI w)] (wMs E o a fs f) (mLane x u r b w) (wMs E o a fs f) := by
  refine jMI_of (cc := cX8_lane) (maxL := 6) (ret := (some .int)) [(0, .ref o), (1, .int (jI u)), (2, .int (jI r)), (3, .int (jI b)), (4, .int (jI w))] (by decide) rfl rfl (Nat.le_of_ble_eq_true rfl) (fun C => ?_)
  show jG mX8_lane E C (jQi E C (mLane x u r b w) (wMs E o a fs f)) 0 0 0 [(0, .ref o), (1, .int (jI u)), (2, .int (jI r)), (3, .int (jI b)), (4, .int (jI w))] [] (wMs E o a fs f)
  have r9 : 0 ≤ x 9 0 ∧ x 9 0 ≤ 8 := hx 9
  have r0 : ∀ i, 0 ≤ x 0 i ∧ x 0 i < 404000 := hx 0
  have r1 : ∀ i, 0 ≤ x 1 i ∧ x 1 i ≤ 3 := hx 1
  have r2 : ∀ i, 0 ≤ x 2 i ∧ x 2 i ≤ 2 := hx 2
  have r3 : ∀ i, -1 ≤ x 3 i ∧ x 3 i ≤ 4 := hx 3
  have r4 : ∀ i, 0 ≤ x 4 i ∧ x 4 i < 404000 := hx 4
  have r5 : ∀ i, 0 ≤ x 5 i ∧ x 5 i ≤ 512 ∧ (i < 4 → x 5 i ≤ 20) := hx 5
  have r6 : ∀ i, 0 ≤ x 6 i ∧ x 6 i < 404000 := hx 6
  have hrr := Rel_RelR hr
  have tt : (tIn u r b = 0) ∨ (tIn u r b = 1 ∧ (50 ≤ u ∧ u ≤ 300) ∧ (0 ≤ r ∧ r ≤ 100) ∧ (0 ≤ b ∧ b ≤ 9)) := by unfold tIn; split <;> omega
  have q2 : (0 ≤ w ∧ w ≤ 1 ∧ (if 0 ≤ w ∧ w ≤ 1 then (1 : Int) else 0) = 1) ∨ (¬ (0 ≤ w ∧ w ≤ 1) ∧ (if 0 ≤ w ∧ w ≤ 1 then (1 : Int) else 0) = 0) := by split <;> omega
  refine j_iload_n 1 1 dX8_lane_0 rfl rfl ?_
  refine j_iload_n 2 2 dX8_lane_1 rfl rfl ?_
  refine j_iload_n 3 3 dX8_lane_2 rfl rfl ?_
  refine j_callSi [] 6 [_, _] (c_X8_isApple E _ _ _ (by omega) (by omega) (by omega)) rfl kX8_lane_X8_isApple rfl rfl rfl rfl rfl (Nat.le_of_ble_eq_true rfl) (by decide) dX8_lane_3 rfl ?_
  refine j_if_eq 19 9 dX8_lane_6 rfl (by decide) (by omega) (fun h_6 => ?_) (fun h_6 => ?_)
  · skip
    have e : mLane x u r b w = -1 := by unfold mLane; exact if_pos (by omega)
    rw [e]
    refine j_iconst 20 dX8_lane_19 rfl ?_
    exact j_iret dX8_lane_20 rfl (by first | rfl | (congr 1; omega)) (by rfl)
  · skip
    refine j_iload 4 11 dX8_lane_9 rfl rfl ?_
    refine j_iconst 12 dX8_lane_11 rfl ?_
    refine j_iconst 13 dX8_lane_12 rfl ?_
    refine j_callSi [] 16 [_, _] (c_X8_in E _ _ _ (by omega) (by omega) (by omega)) rfl kX8_lane_X8_in rfl rfl rfl rfl rfl (Nat.le_of_ble_eq_true rfl) (by decide) dX8_lane_13 rfl ?_
    refine j_if_ne 21 19 dX8_lane_16 rfl (by decide) (by omega) (fun h_16 => ?_) (fun h_16 => ?_)
    · skip
      have e : mLane x u r b w = sLn x (sSee x (tOf u r b)) := if_neg (by omega)
      rw [e]
      have og : 0 ≤ tOf u r b ∧ tOf u r b < 404000 := tOf_rng (by omega) (by omega) (by omega)
      have sg := sSee_rng (t := tOf u r b) hx og
      refine j_aload_n 0 22 dX8_lane_21 rfl rfl ?_
      refine j_iload_n 1 23 dX8_lane_22 rfl rfl ?_
      refine j_iload_n 2 24 dX8_lane_23 rfl rfl ?_
      refine j_iload_n 3 25 dX8_lane_24 rfl rfl ?_
      refine j_callSi [] 28 [_, _] (c_X8_packed E _ _ _ ) rfl kX8_lane_X8_packed rfl rfl rfl rfl rfl (Nat.le_of_ble_eq_true rfl) (by decide) dX8_lane_25 rfl ?_
      refine j_callVi 0 [0, 1] 31 [_, _] (c_X8_seen E _ _ _ _ _ _ (by exact hx) (by exact hrr) (by exact og)) rfl kX8_lane_X8_seen rfl rfl rfl rfl rfl rfl rfl (Nat.le_of_ble_eq_true rfl) (by decide) dX8_lane_28 rfl ?_
      refine j_istore 33 [_, _, _, _, _, _] dX8_lane_31 rfl (by decide) rfl ?_
      refine j_iload 5 35 dX8_lane_33 rfl rfl ?_
      refine j_if_ne 47 38 dX8_lane_35 rfl (by decide) (by omega) (fun h_35 => ?_) (fun h_35 => ?_)
      · skip
        refine j_aload_n 1 48 dX8_lane_47 rfl rfl ?_
        refine j_iload 0 50 dX8_lane_48 rfl rfl ?_
        refine j_callVi 0 [0, 1] 53 [_, _] (c_X8_laneFromLast E _ _ _ _ _ _ (by exact hx) (by exact hrr) (by omega)) rfl kX8_lane_X8_laneFromLast rfl rfl rfl rfl rfl rfl rfl (Nat.le_of_ble_eq_true rfl) (by decide) dX8_lane_50 rfl ?_
        exact j_iret dX8_lane_53 rfl (by first | rfl | (congr 1; omega)) (by rfl)
      · skip
        refine j_aload_n 1 39 dX8_lane_38 rfl rfl ?_
        refine j_iload 0 41 dX8_lane_39 rfl rfl ?_
        refine j_callVi 0 [0, 1] 44 [_, _] (c_X8_laneOf E _ _ _ _ _ _ (by exact hx) (by exact hrr) (by omega)) rfl kX8_lane_X8_laneOf rfl rfl rfl rfl rfl rfl rfl (Nat.le_of_ble_eq_true rfl) (by decide) dX8_lane_41 rfl ?_
        refine j_goto 53 dX8_lane_44 (by decide) ?_
        exact j_iret dX8_lane_53 rfl (by first | rfl | (congr 1; omega)) (by rfl)
    · skip
      have e : mLane x u r b w = -1 := by unfold mLane; exact if_pos (by omega)
      rw [e]
      refine j_iconst 20 dX8_lane_19 rfl ?_
      exact j_iret dX8_lane_20 rfl (by first | rfl | (congr 1; omega)) (by rfl)
theorem kX8_misses_X8_isRule : jKv mX8_misses 99 yX8_isRule wsX8_isRule rmX8_isRule 1 := ⟨gX8_misses_X8_isRule, ⟨_, _, _, _, rfl, by decide⟩, by decide +kernel, rfl, rfl, by decide⟩
theorem kX8_misses_X8_isApple : jKs mX8_misses 86 yX8_isApple wsX8_isApple rmX8_isApple 3 := ⟨gX8_misses_X8_isApple, ⟨_, _, _, _, rfl, by decide⟩, by decide +kernel, rfl, rfl, by decide⟩
theorem kX8_misses_X8_packed : jKs mX8_misses 46 yX8_packed wsX8_packed rmX8_packed 3 := ⟨gX8_misses_X8_packed, ⟨_, _, _, _, rfl, by decide⟩, by decide +kernel, rfl, rfl, by decide⟩
theorem kX8_misses_X8_seen : jKv mX8_misses 63 yX8_seen wsX8_seen rmX8_seen 1 := ⟨gX8_misses_X8_seen, ⟨_, _, _, _, rfl, by decide⟩, by decide +kernel, rfl, rfl, by decide⟩
theorem kX8_misses_X8_missed : jKv mX8_misses 53 yX8_missed wsX8_missed rmX8_missed 2 := ⟨gX8_misses_X8_missed, ⟨_, _, _, _, rfl, by decide⟩, by decide +kernel, rfl, rfl, by decide⟩
set_option maxRecDepth 100000 in
set_option maxHeartbeats 4000000 in
theorem c_X8_misses (E : jE) (o a : Nat) (fs : List Value) (f : Int → Int) (x : Nat → Int → Int) (k u r b : Int) (hx : sOK x) (hr : Rel x f) (kb : -2147483648 ≤ k ∧ k < 2147483648) (ub : -2147483648 ≤ u ∧ u < 2147483648) (rb : -2147483648 ≤ r ∧ r < 2147483648) (bb : -2147483648 ≤ b ∧ b < 2147483648) : jMI E yX8_misses wsX8_misses rmX8_misses [.ref o, .int (jI k), .int (jI u), .int (jI r), .int (jI b)] (wMs E o a fs f) (mMisses x k u r b) (wMs E o a fs f) := by
  refine jMI_of (cc := cX8_misses) (maxL := 5) (ret := (some .int)) [(0, .ref o), (1, .int (jI k)), (2, .int (jI u)), (3, .int (jI r)), (4, .int (jI b))] (by decide) rfl rfl (Nat.le_of_ble_eq_true rfl) (fun C => ?_)
  show jG mX8_misses E C (jQi E C (mMisses x k u r b) (wMs E o a fs f)) 0 0 0 [(0, .ref o), (1, .int (jI k)), (2, .int (jI u)), (3, .int (jI r)), (4, .int (jI b))] [] (wMs E o a fs f)
  have r9 : 0 ≤ x 9 0 ∧ x 9 0 ≤ 8 := hx 9
  have r0 : ∀ i, 0 ≤ x 0 i ∧ x 0 i < 404000 := hx 0
  have r1 : ∀ i, 0 ≤ x 1 i ∧ x 1 i ≤ 3 := hx 1
  have r2 : ∀ i, 0 ≤ x 2 i ∧ x 2 i ≤ 2 := hx 2
  have r3 : ∀ i, -1 ≤ x 3 i ∧ x 3 i ≤ 4 := hx 3
  have r4 : ∀ i, 0 ≤ x 4 i ∧ x 4 i < 404000 := hx 4
  have r5 : ∀ i, 0 ≤ x 5 i ∧ x 5 i ≤ 512 ∧ (i < 4 → x 5 i ≤ 20) := hx 5
  have r6 : ∀ i, 0 ≤ x 6 i ∧ x 6 i < 404000 := hx 6
  have hrr := Rel_RelR hr
  have s4 : x 9 0 = f 4 := hr.2.2.1.1
  have rr : (0 ≤ k ∧ k < f 4 ∧ (if 0 ≤ k ∧ k < f 4 then (1 : Int) else 0) = 1) ∨ (¬ (0 ≤ k ∧ k < f 4) ∧ (if 0 ≤ k ∧ k < f 4 then (1 : Int) else 0) = 0) := by split <;> omega
  have tt : (tIn u r b = 0) ∨ (tIn u r b = 1 ∧ (50 ≤ u ∧ u ≤ 300) ∧ (0 ≤ r ∧ r ≤ 100) ∧ (0 ≤ b ∧ b ≤ 9)) := by unfold tIn; split <;> omega
  refine j_aload_n 0 1 dX8_misses_0 rfl rfl ?_
  refine j_iload_n 1 2 dX8_misses_1 rfl rfl ?_
  refine j_callVi 0 [0, 1] 5 [_, _] (c_X8_isRule E _ _ _ _ _ (by omega) (by omega)) rfl kX8_misses_X8_isRule rfl rfl rfl rfl rfl rfl rfl (Nat.le_of_ble_eq_true rfl) (by decide) dX8_misses_2 rfl ?_
  refine j_if_eq 37 8 dX8_misses_5 rfl (by decide) (by omega) (fun h_5 => ?_) (fun h_5 => ?_)
  · skip
    have e : mMisses x k u r b = -1 := by unfold mMisses; exact if_pos (by omega)
    rw [e]
    refine j_iconst 38 dX8_misses_37 rfl ?_
    exact j_iret dX8_misses_38 rfl (by first | rfl | (congr 1; omega)) (by rfl)
  · skip
    refine j_iload_n 2 9 dX8_misses_8 rfl rfl ?_
    refine j_iload_n 3 10 dX8_misses_9 rfl rfl ?_
    refine j_iload 4 12 dX8_misses_10 rfl rfl ?_
    refine j_callSi [] 15 [_, _] (c_X8_isApple E _ _ _ (by omega) (by omega) (by omega)) rfl kX8_misses_X8_isApple rfl rfl rfl rfl rfl (Nat.le_of_ble_eq_true rfl) (by decide) dX8_misses_12 rfl ?_
    refine j_if_eq 37 18 dX8_misses_15 rfl (by decide) (by omega) (fun h_15 => ?_) (fun h_15 => ?_)
    · skip
      have e : mMisses x k u r b = -1 := by unfold mMisses; exact if_pos (by omega)
      rw [e]
      refine j_iconst 38 dX8_misses_37 rfl ?_
      exact j_iret dX8_misses_38 rfl (by first | rfl | (congr 1; omega)) (by rfl)
    · skip
      have e : mMisses x k u r b = tShort (x 0 k) (sSee x (tOf u r b)) := if_neg (by omega)
      rw [e]
      have og : 0 ≤ tOf u r b ∧ tOf u r b < 404000 := tOf_rng (by omega) (by omega) (by omega)
      have sg := sSee_rng (t := tOf u r b) hx og
      refine j_aload_n 0 19 dX8_misses_18 rfl rfl ?_
      refine j_iload_n 1 20 dX8_misses_19 rfl rfl ?_
      refine j_aload_n 0 21 dX8_misses_20 rfl rfl ?_
      refine j_iload_n 2 22 dX8_misses_21 rfl rfl ?_
      refine j_iload_n 3 23 dX8_misses_22 rfl rfl ?_
      refine j_iload 4 25 dX8_misses_23 rfl rfl ?_
      refine j_callSi [] 28 [_, _] (c_X8_packed E _ _ _ ) rfl kX8_misses_X8_packed rfl rfl rfl rfl rfl (Nat.le_of_ble_eq_true rfl) (by decide) dX8_misses_25 rfl ?_
      refine j_callVi 0 [0, 1] 31 [_, _] (c_X8_seen E _ _ _ _ _ _ (by exact hx) (by exact hrr) (by exact og)) rfl kX8_misses_X8_seen rfl rfl rfl rfl rfl rfl rfl (Nat.le_of_ble_eq_true rfl) (by decide) dX8_misses_28 rfl ?_
      refine j_callVi 0 [0, 1] 34 [_, _] (c_X8_missed E _ _ _ _ _ _ _ (by exact hx) (by exact hrr) (by omega) (by omega)) rfl kX8_misses_X8_missed rfl rfl rfl rfl rfl rfl rfl (Nat.le_of_ble_eq_true rfl) (by decide) dX8_misses_31 rfl ?_
      refine j_goto 38 dX8_misses_34 (by decide) ?_
      exact j_iret dX8_misses_38 rfl (by first | rfl | (congr 1; omega)) (by rfl)
