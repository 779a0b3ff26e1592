/-! the law's rows in the world; its small methods -/
abbrev wA (E : jE) (a n : Nat) (g : Int → Int) : va_W := [(a, .inl (E.2.1, n, .inl (jA g)))]
theorem kSet_rng {x : Nat → Int → Int} {n : Int → Int} (hx : sOK x) (h : kSet x n) : (-20 ≤ n 5 ∧ n 5 ≤ 20) ∧ (0 ≤ n 6 ∧ n 6 ≤ 9) ∧ (1 ≤ n 7 ∧ n 7 ≤ 15) := by
  have r7 : (-20 ≤ x 7 0 ∧ x 7 0 ≤ 20) ∧ (0 ≤ x 7 1 ∧ x 7 1 ≤ 9) ∧ (1 ≤ x 7 2 ∧ x 7 2 ≤ 20) := hx 7
  obtain ⟨a, b, c, d⟩ := h
  omega
theorem pk_see {x : Nat → Int → Int} {t : Int} (ht : 0 ≤ t) : pk (sSee x t) = tW t * 10000 + jMax 0 (jMin 100 (tR t + x 7 0)) * 10 + (if x 7 1 ≤ tB t then tB t else 0) := by
  have b := tB_rng t
  have w : 0 ≤ tW t := by unfold tW; omega
  unfold sSee
  refine pk_of w ?_ ?_
  · unfold jMax jMin
    (repeat' split) <;> omega
  · split <;> omega
set_option maxRecDepth 100000 in
set_option maxHeartbeats 4000000 in
theorem c_L_pack (E : jE) (a r b : Int)  : jMI E yL_pack wsL_pack rmL_pack [.int (jI a), .int (jI r), .int (jI b)] ([]) (a * 10000 + r * 10 + b) ([]) := by
  refine jMI_of (cc := cL_pack) (maxL := 3) (ret := (some .int)) [(0, .int (jI a)), (1, .int (jI r)), (2, .int (jI b))] (by decide) rfl rfl (Nat.le_of_ble_eq_true rfl) (fun C => ?_)
  show jG mL_pack E C (jQi E C (a * 10000 + r * 10 + b) ([])) 0 0 0 [(0, .int (jI a)), (1, .int (jI r)), (2, .int (jI b))] [] ([])
  refine j_iload_n 0 1 dL_pack_0 rfl rfl ?_
  refine j_sipush 4 dL_pack_1 rfl (by decide) ?_
  refine j_imul 5 dL_pack_4 rfl ?_
  refine j_iload_n 1 6 dL_pack_5 rfl rfl ?_
  refine j_bipush 8 dL_pack_6 rfl (by decide) ?_
  refine j_imul 9 dL_pack_8 rfl ?_
  refine j_iadd 10 dL_pack_9 rfl ?_
  refine j_iload_n 2 11 dL_pack_10 rfl rfl ?_
  refine j_iadd 12 dL_pack_11 rfl ?_
  exact j_iret dL_pack_12 rfl (by rfl) (by rfl)
set_option maxRecDepth 100000 in
set_option maxHeartbeats 4000000 in
theorem c_L_cell (E : jE) (b L0 : Nat) (xs : Nat → Int32) (k : Int) (hL : L0 ≤ 260) (hk : 0 ≤ k ∧ k < 60) : jMX (T := Int) (jXs b L0 xs) E yL_cell wsL_cell rmL_cell [.ref b, .int (jI k)] ([]) (fun _ => True) (fun u => u) (fun _ => []) := by
  refine jMX_of (cc := cL_cell) (maxL := 2) (ret := (some .int)) [(0, .ref b), (1, .int (jI k))] (by decide) rfl rfl (Nat.le_of_ble_eq_true rfl) (fun C hT => ?_)
  show jG mL_cell E C (jQx (T := Int) E C (fun _ => True) (fun u => u) (fun _ => [])) 0 0 0 [(0, .ref b), (1, .int (jI k))] [] ([])
  obtain ⟨hX, hbl, hbA⟩ := hT
  refine j_iload_n 1 1 dL_cell_0 rfl rfl ?_
  refine j_aload_n 0 2 dL_cell_1 rfl rfl ?_
  refine j_slen 3 hX hbl hbA (by omega) dL_cell_2 rfl ?_
  refine j_icmp_ge 12 6 dL_cell_3 rfl (by decide) (by omega) (by omega) (fun h_3 => ?_) (fun h_3 => ?_)
  · skip
    refine j_ldc (x := 40503) 14 (List.mem_of_getElem? (i := 1) rfl) (by decide) dL_cell_12 rfl ?_
    refine j_iload_n 1 15 dL_cell_14 rfl rfl ?_
    refine j_iconst 16 dL_cell_15 rfl ?_
    refine j_iadd 17 dL_cell_16 rfl ?_
    refine j_imul 18 dL_cell_17 rfl ?_
    refine j_xret _ dL_cell_18 rfl (by rfl) ?_ rfl
    trivial
  · skip
    refine j_aload_n 0 7 dL_cell_6 rfl rfl ?_
    refine j_iload_n 1 8 dL_cell_7 rfl rfl ?_
    refine j_sld 9 hX hbl hbA (by omega) (by omega) dL_cell_8 rfl ?_
    refine j_goto 18 dL_cell_9 (by decide) ?_
    refine j_xret _ dL_cell_18 rfl (by rfl) ?_ rfl
    trivial
theorem kL_look_L_pack : jKs mL_look 9 yL_pack wsL_pack rmL_pack 3 := ⟨gL_look_L_pack, ⟨_, _, _, _, rfl, by decide⟩, by decide +kernel, rfl, rfl, by decide⟩
set_option maxRecDepth 100000 in
set_option maxHeartbeats 4000000 in
theorem c_L_look (E : jE) (na : Nat) (n : Int → Int) (x : Nat → Int → Int) (a t : Int) (hx : sOK x) (hs : kSet x n) (ht : 0 ≤ t ∧ t < 404000) (ha : a = pk t) : jMI E yL_look wsL_look rmL_look [.ref na, .int (jI a)] (wA E na 16 n) (pk (sSee x t)) (wA E na 16 n) := by
  refine jMI_of (cc := cL_look) (maxL := 3) (ret := (some .int)) [(0, .ref na), (1, .int (jI a))] (by decide) rfl rfl (Nat.le_of_ble_eq_true rfl) (fun C => ?_)
  show jG mL_look E C (jQi E C (pk (sSee x t)) (wA E na 16 n)) 0 0 0 [(0, .ref na), (1, .int (jI a))] [] (wA E na 16 n)
  have r7 := kSet_rng hx hs
  have p0 : 0 ≤ t := ht.1
  obtain ⟨q1, q2, q3⟩ := pk_parts p0
  have q4 := pk_rng (t := t) (by omega)
  have g1 := tR_rng t
  have g2 := tB_rng t
  have g3 : 0 ≤ tW t ∧ tW t ≤ 495 := by unfold tW; omega
  rw [← ha] at q1 q2 q3 q4
  obtain ⟨s5, s6, -, -⟩ := hs
  refine j_iload_n 1 1 dL_look_0 rfl rfl ?_
  refine j_bipush 3 dL_look_1 rfl (by decide) ?_
  refine j_idiv 4 dL_look_3 rfl (by omega) (by decide) ?_
  refine j_sipush 7 dL_look_4 rfl (by decide) ?_
  refine j_irem 8 dL_look_7 rfl (by omega) (by decide) ?_
  refine j_aload_n 0 9 dL_look_8 rfl rfl ?_
  refine j_iconst 10 dL_look_9 rfl ?_
  refine j_iald 0 11 dL_look_10 rfl rfl (by decide) (by omega) ?_
  refine j_iadd 12 dL_look_11 rfl ?_
  refine j_istore_n 13 [_, _, _] dL_look_12 rfl (by decide) rfl ?_
  refine j_iload_n 0 14 dL_look_13 rfl rfl ?_
  refine j_bipush 16 dL_look_14 rfl (by decide) ?_
  refine j_icmp_le 24 19 dL_look_16 rfl (by decide) (by omega) (by omega) (fun h_16 => ?_) (fun h_16 => ?_)
  · skip
    refine j_iload_n 0 25 dL_look_24 rfl rfl ?_
    refine j_if_ge 32 28 dL_look_25 rfl (by decide) (by omega) (fun h_25 => ?_) (fun h_25 => ?_)
    · skip
      refine j_iload_n 0 33 dL_look_32 rfl rfl ?_
      refine j_istore_n 34 [_, _, _] dL_look_33 rfl (by decide) rfl ?_
      refine j_iload_n 2 35 dL_look_34 rfl rfl ?_
      refine j_sipush 38 dL_look_35 rfl (by decide) ?_
      refine j_idiv 39 dL_look_38 rfl (by omega) (by decide) ?_
      refine j_iload_n 0 40 dL_look_39 rfl rfl ?_
      refine j_iload_n 2 41 dL_look_40 rfl rfl ?_
      refine j_bipush 43 dL_look_41 rfl (by decide) ?_
      refine j_irem 44 dL_look_43 rfl (by omega) (by decide) ?_
      refine j_aload_n 1 45 dL_look_44 rfl rfl ?_
      refine j_bipush 47 dL_look_45 rfl (by decide) ?_
      refine j_iald 0 48 dL_look_47 rfl rfl (by decide) (by omega) ?_
      refine j_icmp_ge 55 51 dL_look_48 rfl (by decide) (by omega) (by omega) (fun h_48 => ?_) (fun h_48 => ?_)
      · skip
        refine j_iload_n 2 56 dL_look_55 rfl rfl ?_
        refine j_bipush 58 dL_look_56 rfl (by decide) ?_
        refine j_irem 59 dL_look_58 rfl (by omega) (by decide) ?_
        refine j_callSi [] 62 [_] (c_L_pack E _ _ _ ) rfl kL_look_L_pack rfl rfl rfl rfl rfl (Nat.le_of_ble_eq_true rfl) (by decide) dL_look_59 rfl ?_
        exact j_iret dL_look_62 rfl (by rw [pk_see p0, ← s5, ← s6, q1]; congr 1; unfold jMax jMin; (repeat' split) <;> omega) (by rfl)
      · skip
        refine j_iconst 52 dL_look_51 rfl ?_
        refine j_goto 59 dL_look_52 (by decide) ?_
        refine j_callSi [] 62 [_] (c_L_pack E _ _ _ ) rfl kL_look_L_pack rfl rfl rfl rfl rfl (Nat.le_of_ble_eq_true rfl) (by decide) dL_look_59 rfl ?_
        exact j_iret dL_look_62 rfl (by rw [pk_see p0, ← s5, ← s6, q1]; congr 1; unfold jMax jMin; (repeat' split) <;> omega) (by rfl)
    · skip
      refine j_iconst 29 dL_look_28 rfl ?_
      refine j_goto 33 dL_look_29 (by decide) ?_
      refine j_istore_n 34 [_, _, _] dL_look_33 rfl (by decide) rfl ?_
      refine j_iload_n 2 35 dL_look_34 rfl rfl ?_
      refine j_sipush 38 dL_look_35 rfl (by decide) ?_
      refine j_idiv 39 dL_look_38 rfl (by omega) (by decide) ?_
      refine j_iload_n 0 40 dL_look_39 rfl rfl ?_
      refine j_iload_n 2 41 dL_look_40 rfl rfl ?_
      refine j_bipush 43 dL_look_41 rfl (by decide) ?_
      refine j_irem 44 dL_look_43 rfl (by omega) (by decide) ?_
      refine j_aload_n 1 45 dL_look_44 rfl rfl ?_
      refine j_bipush 47 dL_look_45 rfl (by decide) ?_
      refine j_iald 0 48 dL_look_47 rfl rfl (by decide) (by omega) ?_
      refine j_icmp_ge 55 51 dL_look_48 rfl (by decide) (by omega) (by omega) (fun h_48 => ?_) (fun h_48 => ?_)
      · skip
        refine j_iload_n 2 56 dL_look_55 rfl rfl ?_
        refine j_bipush 58 dL_look_56 rfl (by decide) ?_
        refine j_irem 59 dL_look_58 rfl (by omega) (by decide) ?_
        refine j_callSi [] 62 [_] (c_L_pack E _ _ _ ) rfl kL_look_L_pack rfl rfl rfl rfl rfl (Nat.le_of_ble_eq_true rfl) (by decide) dL_look_59 rfl ?_
        exact j_iret dL_look_62 rfl (by rw [pk_see p0, ← s5, ← s6, q1]; congr 1; unfold jMax jMin; (repeat' split) <;> omega) (by rfl)
      · skip
        refine j_iconst 52 dL_look_51 rfl ?_
        refine j_goto 59 dL_look_52 (by decide) ?_
        refine j_callSi [] 62 [_] (c_L_pack E _ _ _ ) rfl kL_look_L_pack rfl rfl rfl rfl rfl (Nat.le_of_ble_eq_true rfl) (by decide) dL_look_59 rfl ?_
        exact j_iret dL_look_62 rfl (by rw [pk_see p0, ← s5, ← s6, q1]; congr 1; unfold jMax jMin; (repeat' split) <;> omega) (by rfl)
  · skip
    refine j_bipush 21 dL_look_19 rfl (by decide) ?_
    refine j_goto 33 dL_look_21 (by decide) ?_
    refine j_istore_n 34 [_, _, _] dL_look_33 rfl (by decide) rfl ?_
    refine j_iload_n 2 35 dL_look_34 rfl rfl ?_
    refine j_sipush 38 dL_look_35 rfl (by decide) ?_
    refine j_idiv 39 dL_look_38 rfl (by omega) (by decide) ?_
    refine j_iload_n 0 40 dL_look_39 rfl rfl ?_
    refine j_iload_n 2 41 dL_look_40 rfl rfl ?_
    refine j_bipush 43 dL_look_41 rfl (by decide) ?_
    refine j_irem 44 dL_look_43 rfl (by omega) (by decide) ?_
    refine j_aload_n 1 45 dL_look_44 rfl rfl ?_
    refine j_bipush 47 dL_look_45 rfl (by decide) ?_
    refine j_iald 0 48 dL_look_47 rfl rfl (by decide) (by omega) ?_
    refine j_icmp_ge 55 51 dL_look_48 rfl (by decide) (by omega) (by omega) (fun h_48 => ?_) (fun h_48 => ?_)
    · skip
      refine j_iload_n 2 56 dL_look_55 rfl rfl ?_
      refine j_bipush 58 dL_look_56 rfl (by decide) ?_
      refine j_irem 59 dL_look_58 rfl (by omega) (by decide) ?_
      refine j_callSi [] 62 [_] (c_L_pack E _ _ _ ) rfl kL_look_L_pack rfl rfl rfl rfl rfl (Nat.le_of_ble_eq_true rfl) (by decide) dL_look_59 rfl ?_
      exact j_iret dL_look_62 rfl (by rw [pk_see p0, ← s5, ← s6, q1]; congr 1; unfold jMax jMin; (repeat' split) <;> omega) (by rfl)
    · skip
      refine j_iconst 52 dL_look_51 rfl ?_
      refine j_goto 59 dL_look_52 (by decide) ?_
      refine j_callSi [] 62 [_] (c_L_pack E _ _ _ ) rfl kL_look_L_pack rfl rfl rfl rfl rfl (Nat.le_of_ble_eq_true rfl) (by decide) dL_look_59 rfl ?_
      exact j_iret dL_look_62 rfl (by rw [pk_see p0, ← s5, ← s6, q1]; congr 1; unfold jMax jMin; (repeat' split) <;> omega) (by rfl)
set_option maxRecDepth 100000 in
set_option maxHeartbeats 4000000 in
theorem c_L_why (E : jE) (ua : Nat) (u : Int → Int) (x : Nat → Int → Int) (k a t : Int) (hx : sOK x) (hu : u (4 * k) = tW (x 0 k) ∧ u (4 * k + 1) = tR (x 0 k) ∧ u (4 * k + 2) = tB (x 0 k)) (hk : 0 ≤ k ∧ k < 8) (ht : 0 ≤ t ∧ t < 500000) (ha : a = pk t) : jMI E yL_why wsL_why rmL_why [.ref ua, .int (jI k), .int (jI a)] (wA E ua 36 u) (tShort (x 0 k) t) (wA E ua 36 u) := by
  refine jMI_of (cc := cL_why) (maxL := 4) (ret := (some .int)) [(0, .ref ua), (1, .int (jI k)), (2, .int (jI a))] (by decide) rfl rfl (Nat.le_of_ble_eq_true rfl) (fun C => ?_)
  show jG mL_why E C (jQi E C (tShort (x 0 k) t) (wA E ua 36 u)) 0 0 0 [(0, .ref ua), (1, .int (jI k)), (2, .int (jI a))] [] (wA E ua 36 u)
  have p0 : 0 ≤ t := ht.1
  obtain ⟨q1, q2, q3⟩ := pk_parts p0
  have q4 := pk_rng (t := t) (by omega)
  have g1 := tR_rng t
  have g2 := tB_rng t
  have g3 : 0 ≤ tW t ∧ tW t ≤ 495 := by unfold tW; omega
  rw [← ha] at q1 q2 q3 q4
  obtain ⟨u1, u2, u3⟩ := hu
  have x0 : ∀ i, 0 ≤ x 0 i ∧ x 0 i < 404000 := hx 0
  have x0k := x0 k
  have k1 : 0 ≤ tW (x 0 k) ∧ tW (x 0 k) ≤ 495 := by unfold tW; omega
  have k2 := tR_rng (x 0 k)
  have k3 := tB_rng (x 0 k)
  refine j_iload_n 2 1 dL_why_0 rfl rfl ?_
  refine j_sipush 4 dL_why_1 rfl (by decide) ?_
  refine j_idiv 5 dL_why_4 rfl (by omega) (by decide) ?_
  refine j_aload_n 0 6 dL_why_5 rfl rfl ?_
  refine j_iconst 7 dL_why_6 rfl ?_
  refine j_iload_n 1 8 dL_why_7 rfl rfl ?_
  refine j_imul 9 dL_why_8 rfl ?_
  refine j_iald 0 10 dL_why_9 rfl rfl (by decide) (by omega) ?_
  refine j_icmp_ge 17 13 dL_why_10 rfl (by decide) (by omega) (by omega) (fun h_10 => ?_) (fun h_10 => ?_)
  · skip
    refine j_iconst 18 dL_why_17 rfl ?_
    refine j_istore_n 19 [_, _, _, _] dL_why_18 rfl (by decide) rfl ?_
    refine j_iload_n 0 20 dL_why_19 rfl rfl ?_
    refine j_iload_n 3 21 dL_why_20 rfl rfl ?_
    refine j_bipush 23 dL_why_21 rfl (by decide) ?_
    refine j_idiv 24 dL_why_23 rfl (by omega) (by decide) ?_
    refine j_sipush 27 dL_why_24 rfl (by decide) ?_
    refine j_irem 28 dL_why_27 rfl (by omega) (by decide) ?_
    refine j_aload_n 1 29 dL_why_28 rfl rfl ?_
    refine j_iconst 30 dL_why_29 rfl ?_
    refine j_iload_n 2 31 dL_why_30 rfl rfl ?_
    refine j_imul 32 dL_why_31 rfl ?_
    refine j_iconst 33 dL_why_32 rfl ?_
    refine j_iadd 34 dL_why_33 rfl ?_
    refine j_iald 0 35 dL_why_34 rfl rfl (by decide) (by omega) ?_
    refine j_icmp_ge 42 38 dL_why_35 rfl (by decide) (by omega) (by omega) (fun h_35 => ?_) (fun h_35 => ?_)
    · skip
      refine j_iconst 43 dL_why_42 rfl ?_
      refine j_iadd 44 dL_why_43 rfl ?_
      refine j_istore_n 45 [_, _, _, _] dL_why_44 rfl (by decide) rfl ?_
      refine j_iload_n 0 46 dL_why_45 rfl rfl ?_
      refine j_iload_n 3 47 dL_why_46 rfl rfl ?_
      refine j_bipush 49 dL_why_47 rfl (by decide) ?_
      refine j_irem 50 dL_why_49 rfl (by omega) (by decide) ?_
      refine j_aload_n 1 51 dL_why_50 rfl rfl ?_
      refine j_iconst 52 dL_why_51 rfl ?_
      refine j_iload_n 2 53 dL_why_52 rfl rfl ?_
      refine j_imul 54 dL_why_53 rfl ?_
      refine j_iconst 55 dL_why_54 rfl ?_
      refine j_iadd 56 dL_why_55 rfl ?_
      refine j_iald 0 57 dL_why_56 rfl rfl (by decide) (by omega) ?_
      refine j_icmp_le 64 60 dL_why_57 rfl (by decide) (by omega) (by omega) (fun h_57 => ?_) (fun h_57 => ?_)
      · skip
        refine j_iconst 65 dL_why_64 rfl ?_
        refine j_iadd 66 dL_why_65 rfl ?_
        exact j_iret dL_why_66 rfl (by congr 1; unfold tShort; (repeat' split) <;> omega) (by rfl)
      · skip
        refine j_iconst 61 dL_why_60 rfl ?_
        refine j_goto 65 dL_why_61 (by decide) ?_
        refine j_iadd 66 dL_why_65 rfl ?_
        exact j_iret dL_why_66 rfl (by congr 1; unfold tShort; (repeat' split) <;> omega) (by rfl)
    · skip
      refine j_iconst 39 dL_why_38 rfl ?_
      refine j_goto 43 dL_why_39 (by decide) ?_
      refine j_iadd 44 dL_why_43 rfl ?_
      refine j_istore_n 45 [_, _, _, _] dL_why_44 rfl (by decide) rfl ?_
      refine j_iload_n 0 46 dL_why_45 rfl rfl ?_
      refine j_iload_n 3 47 dL_why_46 rfl rfl ?_
      refine j_bipush 49 dL_why_47 rfl (by decide) ?_
      refine j_irem 50 dL_why_49 rfl (by omega) (by decide) ?_
      refine j_aload_n 1 51 dL_why_50 rfl rfl ?_
      refine j_iconst 52 dL_why_51 rfl ?_
      refine j_iload_n 2 53 dL_why_52 rfl rfl ?_
      refine j_imul 54 dL_why_53 rfl ?_
      refine j_iconst 55 dL_why_54 rfl ?_
      refine j_iadd 56 dL_why_55 rfl ?_
      refine j_iald 0 57 dL_why_56 rfl rfl (by decide) (by omega) ?_
      refine j_icmp_le 64 60 dL_why_57 rfl (by decide) (by omega) (by omega) (fun h_57 => ?_) (fun h_57 => ?_)
      · skip
        refine j_iconst 65 dL_why_64 rfl ?_
        refine j_iadd 66 dL_why_65 rfl ?_
        exact j_iret dL_why_66 rfl (by congr 1; unfold tShort; (repeat' split) <;> omega) (by rfl)
      · skip
        refine j_iconst 61 dL_why_60 rfl ?_
        refine j_goto 65 dL_why_61 (by decide) ?_
        refine j_iadd 66 dL_why_65 rfl ?_
        exact j_iret dL_why_66 rfl (by congr 1; unfold tShort; (repeat' split) <;> omega) (by rfl)
  · skip
    refine j_iconst 14 dL_why_13 rfl ?_
    refine j_goto 18 dL_why_14 (by decide) ?_
    refine j_istore_n 19 [_, _, _, _] dL_why_18 rfl (by decide) rfl ?_
    refine j_iload_n 0 20 dL_why_19 rfl rfl ?_
    refine j_iload_n 3 21 dL_why_20 rfl rfl ?_
    refine j_bipush 23 dL_why_21 rfl (by decide) ?_
    refine j_idiv 24 dL_why_23 rfl (by omega) (by decide) ?_
    refine j_sipush 27 dL_why_24 rfl (by decide) ?_
    refine j_irem 28 dL_why_27 rfl (by omega) (by decide) ?_
    refine j_aload_n 1 29 dL_why_28 rfl rfl ?_
    refine j_iconst 30 dL_why_29 rfl ?_
    refine j_iload_n 2 31 dL_why_30 rfl rfl ?_
    refine j_imul 32 dL_why_31 rfl ?_
    refine j_iconst 33 dL_why_32 rfl ?_
    refine j_iadd 34 dL_why_33 rfl ?_
    refine j_iald 0 35 dL_why_34 rfl rfl (by decide) (by omega) ?_
    refine j_icmp_ge 42 38 dL_why_35 rfl (by decide) (by omega) (by omega) (fun h_35 => ?_) (fun h_35 => ?_)
    · skip
      refine j_iconst 43 dL_why_42 rfl ?_
      refine j_iadd 44 dL_why_43 rfl ?_
      refine j_istore_n 45 [_, _, _, _] dL_why_44 rfl (by decide) rfl ?_
      refine j_iload_n 0 46 dL_why_45 rfl rfl ?_
      refine j_iload_n 3 47 dL_why_46 rfl rfl ?_
      refine j_bipush 49 dL_why_47 rfl (by decide) ?_
      refine j_irem 50 dL_why_49 rfl (by omega) (by decide) ?_
      refine j_aload_n 1 51 dL_why_50 rfl rfl ?_
      refine j_iconst 52 dL_why_51 rfl ?_
      refine j_iload_n 2 53 dL_why_52 rfl rfl ?_
      refine j_imul 54 dL_why_53 rfl ?_
      refine j_iconst 55 dL_why_54 rfl ?_
      refine j_iadd 56 dL_why_55 rfl ?_
      refine j_iald 0 57 dL_why_56 rfl rfl (by decide) (by omega) ?_
      refine j_icmp_le 64 60 dL_why_57 rfl (by decide) (by omega) (by omega) (fun h_57 => ?_) (fun h_57 => ?_)
      · skip
        refine j_iconst 65 dL_why_64 rfl ?_
        refine j_iadd 66 dL_why_65 rfl ?_
        exact j_iret dL_why_66 rfl (by congr 1; unfold tShort; (repeat' split) <;> omega) (by rfl)
      · skip
        refine j_iconst 61 dL_why_60 rfl ?_
        refine j_goto 65 dL_why_61 (by decide) ?_
        refine j_iadd 66 dL_why_65 rfl ?_
        exact j_iret dL_why_66 rfl (by congr 1; unfold tShort; (repeat' split) <;> omega) (by rfl)
    · skip
      refine j_iconst 39 dL_why_38 rfl ?_
      refine j_goto 43 dL_why_39 (by decide) ?_
      refine j_iadd 44 dL_why_43 rfl ?_
      refine j_istore_n 45 [_, _, _, _] dL_why_44 rfl (by decide) rfl ?_
      refine j_iload_n 0 46 dL_why_45 rfl rfl ?_
      refine j_iload_n 3 47 dL_why_46 rfl rfl ?_
      refine j_bipush 49 dL_why_47 rfl (by decide) ?_
      refine j_irem 50 dL_why_49 rfl (by omega) (by decide) ?_
      refine j_aload_n 1 51 dL_why_50 rfl rfl ?_
      refine j_iconst 52 dL_why_51 rfl ?_
      refine j_iload_n 2 53 dL_why_52 rfl rfl ?_
      refine j_imul 54 dL_why_53 rfl ?_
      refine j_iconst 55 dL_why_54 rfl ?_
      refine j_iadd 56 dL_why_55 rfl ?_
      refine j_iald 0 57 dL_why_56 rfl rfl (by decide) (by omega) ?_
      refine j_icmp_le 64 60 dL_why_57 rfl (by decide) (by omega) (by omega) (fun h_57 => ?_) (fun h_57 => ?_)
      · skip
        refine j_iconst 65 dL_why_64 rfl ?_
        refine j_iadd 66 dL_why_65 rfl ?_
        exact j_iret dL_why_66 rfl (by congr 1; unfold tShort; (repeat' split) <;> omega) (by rfl)
      · skip
        refine j_iconst 61 dL_why_60 rfl ?_
        refine j_goto 65 dL_why_61 (by decide) ?_
        refine j_iadd 66 dL_why_65 rfl ?_
        exact j_iret dL_why_66 rfl (by congr 1; unfold tShort; (repeat' split) <;> omega) (by rfl)
theorem kL_lane_L_why : jKs mL_lane 15 yL_why wsL_why rmL_why 3 := ⟨gL_lane_L_why, ⟨_, _, _, _, rfl, by decide⟩, by decide +kernel, rfl, rfl, by decide⟩
set_option maxRecDepth 100000 in
set_option maxHeartbeats 4000000 in
theorem c_L_lane (E : jE) (na ua : Nat) (n u : Int → Int) (x : Nat → Int → Int) (a t : Int) (hx : sOK x) (hr : kRul x n u) (ht : 0 ≤ t ∧ t < 500000) (ha : a = pk t) : jMI E yL_lane wsL_lane rmL_lane [.ref na, .ref ua, .int (jI a)] (jFl [wA E na 16 n, wA E ua 36 u]) (sLn x t) (jFl [wA E na 16 n, wA E ua 36 u]) := by
  refine jMI_of (cc := cL_lane) (maxL := 5) (ret := (some .int)) [(0, .ref na), (1, .ref ua), (2, .int (jI a))] (by decide) rfl rfl (Nat.le_of_ble_eq_true rfl) (fun C => ?_)
  show jG mL_lane E C (jQi E C (sLn x t) (jFl [wA E na 16 n, wA E ua 36 u])) 0 0 0 [(0, .ref na), (1, .ref ua), (2, .int (jI a))] [] (jFl [wA E na 16 n, wA E ua 36 u])
  have r9 : 0 ≤ x 9 0 ∧ x 9 0 ≤ 8 := hx 9
  obtain ⟨s9, su⟩ := hr
  refine j_iconst 1 dL_lane_0 rfl ?_
  refine j_istore_n 2 [_, _, _, _] dL_lane_1 rfl (by decide) rfl ?_
  refine j_aload_n 1 3 dL_lane_2 rfl rfl ?_
  refine j_bipush 5 dL_lane_3 rfl (by decide) ?_
  refine j_ialdB 0 0 6 dL_lane_5 rfl rfl rfl (by decide) (by omega) ?_
  refine j_iconst 7 dL_lane_6 rfl ?_
  refine j_isub 8 dL_lane_7 rfl ?_
  refine j_istore 10 [_, _, _, _, _] dL_lane_8 rfl (by decide) rfl ?_
  have key10 : ∀ (fu : Nat) (i : Int), i + 1 < fu → -1 ≤ i ∧ i < x 9 0 → jG mL_lane E C (jQi E C (sLn x t) (jFl [wA E na 16 n, wA E ua 36 u])) 0 0 10 [(0, .ref na), (1, .ref ua), (2, .int (jI a)), (3, .int (jI (lnF (x 0) (x 1) t (x 9 0 - (i + 1)).toNat (i + 1)))), (4, .int (jI i))] [] (jFl [wA E na 16 n, wA E ua 36 u]) := by
    intro fu
    induction fu with
    | zero => intro i h1 h2; exact absurd h1 (by omega)
    | succ fu ih =>
      intro i h1 h2
      refine j_iload 4 12 dL_lane_10 rfl rfl ?_
      refine j_if_lt 44 15 dL_lane_12 rfl (by decide) (by omega) (fun h_12 => ?_) (fun h_12 => ?_)
      · skip
        obtain rfl : i = -1 := by omega
        rw [show (x 9 0 - (-1 + 1)).toNat = (x 9 0).toNat by omega, show (-1 + 1 : Int) = 0 by omega]
        refine j_iload_n 3 45 dL_lane_44 rfl rfl ?_
        exact j_iret dL_lane_45 rfl (by rfl) (by rfl)
      · skip
        have ui := su i (by omega) (by omega)
        refine j_aload_n 1 16 dL_lane_15 rfl rfl ?_
        refine j_iload 4 18 dL_lane_16 rfl rfl ?_
        refine j_iload_n 2 19 dL_lane_18 rfl rfl ?_
        refine j_callSiB (wcs := [_]) (cs := [_]) [1] 22 [_, _] (c_L_why E _ _ _ _ _ _ (by exact hx) (by exact ⟨ui.1, ui.2.1, ui.2.2.1⟩) (by omega) (by omega) (by assumption)) (jFl_1 _) (jFl_1 _) rfl kL_lane_L_why rfl rfl rfl rfl (Nat.le_of_ble_eq_true rfl) (by decide) dL_lane_19 rfl ?_
        have hs := tShort_rng (x 0 i) t
        refine j_if_ne 36 25 dL_lane_22 rfl (by decide) (by omega) (fun h_22 => ?_) (fun h_22 => ?_)
        · skip
          refine j_iload_n 3 37 dL_lane_36 rfl rfl ?_
          refine j_istore_n 38 [_, _, _, _, _] dL_lane_37 rfl (by decide) rfl ?_
          refine j_iinc 4 41 [_, _, _, _, _] dL_lane_38 rfl rfl (by decide) rfl ?_
          refine j_goto 10 dL_lane_41 (by decide) ?_
          refine j_perm [2, 3, 4, 1, 0] rfl ?_
          have g := ih (i - 1) (by omega) (by omega)
          rw [show i - 1 + 1 = i by omega, show (x 9 0 - i).toNat = (x 9 0 - (i + 1)).toNat + 1 by omega, lnF] at g
          first
            | (rw [if_pos h_22, ← (su i (by omega) (by omega)).2.2.2] at g; exact g)
            | (rw [if_neg h_22] at g; exact g)
        · skip
          refine j_aload_n 1 26 dL_lane_25 rfl rfl ?_
          refine j_iconst 27 dL_lane_26 rfl ?_
          refine j_iload 4 29 dL_lane_27 rfl rfl ?_
          refine j_imul 30 dL_lane_29 rfl ?_
          refine j_iconst 31 dL_lane_30 rfl ?_
          refine j_iadd 32 dL_lane_31 rfl ?_
          refine j_ialdB 1 0 33 dL_lane_32 rfl rfl rfl (by decide) (by omega) ?_
          refine j_goto 37 dL_lane_33 (by decide) ?_
          refine j_istore_n 38 [_, _, _, _, _] dL_lane_37 rfl (by decide) rfl ?_
          refine j_iinc 4 41 [_, _, _, _, _] dL_lane_38 rfl rfl (by decide) rfl ?_
          refine j_goto 10 dL_lane_41 (by decide) ?_
          refine j_perm [2, 3, 4, 1, 0] rfl ?_
          have g := ih (i - 1) (by omega) (by omega)
          rw [show i - 1 + 1 = i by omega, show (x 9 0 - i).toNat = (x 9 0 - (i + 1)).toNat + 1 by omega, lnF] at g
          first
            | (rw [if_pos h_22, ← (su i (by omega) (by omega)).2.2.2] at g; exact g)
            | (rw [if_neg h_22] at g; exact g)
  refine j_perm [2, 3, 4, 1, 0] rfl ?_
  rw [s9]
  have g := key10 ((x 9 0).toNat + 1) (x 9 0 - 1) (by omega) (by omega)
  rw [show (x 9 0 - (x 9 0 - 1 + 1)).toNat = 0 by omega] at g
  exact g
theorem kL_ticks_L_look : jKs mL_ticks 19 yL_look wsL_look rmL_look 2 := ⟨gL_ticks_L_look, ⟨_, _, _, _, rfl, by decide⟩, by decide +kernel, rfl, rfl, by decide⟩
theorem kL_ticks_L_lane : jKs mL_ticks 23 yL_lane wsL_lane rmL_lane 3 := ⟨gL_ticks_L_lane, ⟨_, _, _, _, rfl, by decide⟩, by decide +kernel, rfl, rfl, by decide⟩
set_option maxRecDepth 100000 in
set_option maxHeartbeats 4000000 in
theorem c_L_ticks (E : jE) (ca na ua : Nat) (c n u : Int → Int) (x : Nat → Int → Int) (p : Int) (hx : sOK x) (hc : kCup 1 x c) (hl : kLow x n u) (hp : 0 ≤ p ∧ p < 12) (h1 : 1 ≤ x 2 p) : jMI E yL_ticks wsL_ticks rmL_ticks [.ref ca, .ref na, .ref ua, .int (jI p)] (jFl [wA E ca 48 c, wA E na 16 n, wA E ua 36 u]) (sTtf x p) (jFl [wA E ca 48 c, wA E na 16 n, wA E ua 36 u]) := by
  refine jMI_of (cc := cL_ticks) (maxL := 5) (ret := (some .int)) [(0, .ref ca), (1, .ref na), (2, .ref ua), (3, .int (jI p))] (by decide) rfl rfl (Nat.le_of_ble_eq_true rfl) (fun C => ?_)
  show jG mL_ticks E C (jQi E C (sTtf x p) (jFl [wA E ca 48 c, wA E na 16 n, wA E ua 36 u])) 0 0 0 [(0, .ref ca), (1, .ref na), (2, .ref ua), (3, .int (jI p))] [] (jFl [wA E ca 48 c, wA E na 16 n, wA E ua 36 u])
  have x2 : ∀ i, 0 ≤ x 2 i ∧ x 2 i ≤ 2 := hx 2
  have x3 : ∀ i, -1 ≤ x 3 i ∧ x 3 i ≤ 4 := hx 3
  have x4 : ∀ i, 0 ≤ x 4 i ∧ x 4 i < 404000 := hx 4
  obtain ⟨hs, -, hu⟩ := hl
  obtain ⟨a1, a2, -, a4⟩ := hc p hp.1 hp.2
  have es : sTtf x p = (if (if p = 0 then sGtc x else x 3 p) = 4 then 12 else 2 + 2 * (if p = 0 then sGtc x else x 3 p)) - p := if_neg (by omega)
  have x3p := x3 p
  have x40 := x4 0
  have x20 := x2 0
  have sr := sSee_rng (t := x 4 0) hx x40
  have lr := sLn_rng hx (sSee x (x 4 0))
  refine j_iload_n 3 1 dL_ticks_0 rfl rfl ?_
  refine j_if_le 14 4 dL_ticks_1 rfl (by decide) (by omega) (fun h_1 => ?_) (fun h_1 => ?_)
  · skip
    obtain rfl : p = 0 := by omega
    rw [if_pos rfl] at es
    have c0 : c 0 = x 2 0 := a1
    have c1 : c 1 = pk (x 4 0) := a2 h1
    refine j_aload_n 0 15 dL_ticks_14 rfl rfl ?_
    refine j_iconst 16 dL_ticks_15 rfl ?_
    refine j_ialdB 0 0 17 dL_ticks_16 rfl rfl rfl (by decide) (by omega) ?_
    refine j_iconst 18 dL_ticks_17 rfl ?_
    refine j_icmp_ne 25 21 dL_ticks_18 rfl (by decide) (by omega) (by omega) (fun h_18 => ?_) (fun h_18 => ?_)
    · skip
      have sg : sGtc x = sLn x (sSee x (x 4 0)) := if_pos (by omega)
      rw [sg] at es
      refine j_aload_n 1 26 dL_ticks_25 rfl rfl ?_
      refine j_aload_n 2 27 dL_ticks_26 rfl rfl ?_
      refine j_aload_n 1 28 dL_ticks_27 rfl rfl ?_
      refine j_aload_n 0 29 dL_ticks_28 rfl rfl ?_
      refine j_iconst 30 dL_ticks_29 rfl ?_
      refine j_ialdB 0 0 31 dL_ticks_30 rfl rfl rfl (by decide) (by omega) ?_
      refine j_callSiB (wcs := [_]) (cs := [_]) [1] 34 [_, _, _] (c_L_look E _ n x _ (x 4 0) (by exact hx) (by exact hs) (by omega) (by exact c1)) (jFl_1 _) (jFl_1 _) rfl kL_ticks_L_look rfl rfl rfl rfl (Nat.le_of_ble_eq_true rfl) (by decide) dL_ticks_31 rfl ?_
      refine j_callSiB (wcs := [_, _]) (cs := [_, _]) [1, 2] 37 [_, _, _] (c_L_lane E _ _ n u x _ (sSee x (x 4 0)) (by exact hx) (by exact hu) (by omega) (by rfl)) rfl rfl rfl kL_ticks_L_lane rfl rfl rfl rfl (Nat.le_of_ble_eq_true rfl) (by decide) dL_ticks_34 rfl ?_
      refine j_istore 39 [_, _, _, _, _] dL_ticks_37 rfl (by decide) rfl ?_
      refine j_iload 0 41 dL_ticks_39 rfl rfl ?_
      refine j_iconst 42 dL_ticks_41 rfl ?_
      refine j_icmp_ne 52 45 dL_ticks_42 rfl (by decide) (by omega) (by omega) (fun h_42 => ?_) (fun h_42 => ?_)
      · skip
        refine j_iconst 53 dL_ticks_52 rfl ?_
        refine j_iload 0 55 dL_ticks_53 rfl rfl ?_
        refine j_imul 56 dL_ticks_55 rfl ?_
        refine j_iconst 57 dL_ticks_56 rfl ?_
        refine j_iadd 58 dL_ticks_57 rfl ?_
        refine j_iload_n 4 59 dL_ticks_58 rfl rfl ?_
        refine j_isub 60 dL_ticks_59 rfl ?_
        exact j_iret dL_ticks_60 rfl (by rw [es]; congr 1 <;> ((repeat' split) <;> omega)) (by rfl)
      · skip
        refine j_bipush 47 dL_ticks_45 rfl (by decide) ?_
        refine j_iload_n 4 48 dL_ticks_47 rfl rfl ?_
        refine j_isub 49 dL_ticks_48 rfl ?_
        refine j_goto 60 dL_ticks_49 (by decide) ?_
        exact j_iret dL_ticks_60 rfl (by rw [es]; congr 1 <;> ((repeat' split) <;> omega)) (by rfl)
    · skip
      have sg : sGtc x = 4 := if_neg (by omega)
      rw [sg] at es
      refine j_iconst 22 dL_ticks_21 rfl ?_
      refine j_goto 37 dL_ticks_22 (by decide) ?_
      refine j_istore 39 [_, _, _, _, _] dL_ticks_37 rfl (by decide) rfl ?_
      refine j_iload 0 41 dL_ticks_39 rfl rfl ?_
      refine j_iconst 42 dL_ticks_41 rfl ?_
      refine j_icmp_ne 52 45 dL_ticks_42 rfl (by decide) (by omega) (by omega) (fun h_42 => ?_) (fun h_42 => ?_)
      · skip
        refine j_iconst 53 dL_ticks_52 rfl ?_
        refine j_iload 0 55 dL_ticks_53 rfl rfl ?_
        refine j_imul 56 dL_ticks_55 rfl ?_
        refine j_iconst 57 dL_ticks_56 rfl ?_
        refine j_iadd 58 dL_ticks_57 rfl ?_
        refine j_iload_n 4 59 dL_ticks_58 rfl rfl ?_
        refine j_isub 60 dL_ticks_59 rfl ?_
        exact j_iret dL_ticks_60 rfl (by rw [es]; congr 1 <;> ((repeat' split) <;> omega)) (by rfl)
      · skip
        refine j_bipush 47 dL_ticks_45 rfl (by decide) ?_
        refine j_iload_n 4 48 dL_ticks_47 rfl rfl ?_
        refine j_isub 49 dL_ticks_48 rfl ?_
        refine j_goto 60 dL_ticks_49 (by decide) ?_
        exact j_iret dL_ticks_60 rfl (by rw [es]; congr 1 <;> ((repeat' split) <;> omega)) (by rfl)
  · skip
    have a4p := a4 (by omega) h1
    rw [if_neg (show ¬ p = 0 by omega)] at es
    refine j_aload_n 0 5 dL_ticks_4 rfl rfl ?_
    refine j_iconst 6 dL_ticks_5 rfl ?_
    refine j_iload_n 3 7 dL_ticks_6 rfl rfl ?_
    refine j_imul 8 dL_ticks_7 rfl ?_
    refine j_iconst 9 dL_ticks_8 rfl ?_
    refine j_iadd 10 dL_ticks_9 rfl ?_
    refine j_ialdB 0 0 11 dL_ticks_10 rfl rfl rfl (by decide) (by omega) ?_
    refine j_goto 37 dL_ticks_11 (by decide) ?_
    refine j_istore 39 [_, _, _, _, _] dL_ticks_37 rfl (by decide) rfl ?_
    refine j_iload 0 41 dL_ticks_39 rfl rfl ?_
    refine j_iconst 42 dL_ticks_41 rfl ?_
    refine j_icmp_ne 52 45 dL_ticks_42 rfl (by decide) (by omega) (by omega) (fun h_42 => ?_) (fun h_42 => ?_)
    · skip
      refine j_iconst 53 dL_ticks_52 rfl ?_
      refine j_iload 0 55 dL_ticks_53 rfl rfl ?_
      refine j_imul 56 dL_ticks_55 rfl ?_
      refine j_iconst 57 dL_ticks_56 rfl ?_
      refine j_iadd 58 dL_ticks_57 rfl ?_
      refine j_iload_n 4 59 dL_ticks_58 rfl rfl ?_
      refine j_isub 60 dL_ticks_59 rfl ?_
      exact j_iret dL_ticks_60 rfl (by rw [es]; congr 1 <;> ((repeat' split) <;> omega)) (by rfl)
    · skip
      refine j_bipush 47 dL_ticks_45 rfl (by decide) ?_
      refine j_iload_n 4 48 dL_ticks_47 rfl rfl ?_
      refine j_isub 49 dL_ticks_48 rfl ?_
      refine j_goto 60 dL_ticks_49 (by decide) ?_
      exact j_iret dL_ticks_60 rfl (by rw [es]; congr 1 <;> ((repeat' split) <;> omega)) (by rfl)
