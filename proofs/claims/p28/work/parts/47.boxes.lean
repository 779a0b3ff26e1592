/-! boxes, apples, shares against the law's rows -/
theorem mBox_at {x : Nat → Int → Int} {l : Int} (hl : 0 ≤ l ∧ l ≤ 4) : mBox x l 0 = x 5 l ∧ mBox x l 1 = jSum (fun i => tW (x 6 (l * 20 + i))) (x 5 l).toNat ∧ mBox x l 2 = sWi x l ∧ mBox x l 3 = lrU (x 6) (l * 20) (x 5 l).toNat ∧ mBox x l 4 = gbU (x 6) (l * 20) (x 5 l).toNat ∧ mBox x l 5 = (if l = 4 ∨ ¬ x 8 l = 0 then 1 else 0) :=
  ⟨(if_neg (by omega)).trans rfl, (if_neg (by omega)).trans rfl, (if_neg (by omega)).trans rfl, (if_neg (by omega)).trans rfl, (if_neg (by omega)).trans rfl, (if_neg (by omega)).trans rfl⟩
theorem mApple_at {x : Nat → Int → Int} {l i : Int} (hl : 0 ≤ l ∧ l ≤ 4) (h0 : 0 ≤ i) (hi : i < x 5 l) : mApple x l i 0 = tW (x 6 (l * 20 + i)) ∧ mApple x l i 1 = tR (x 6 (l * 20 + i)) ∧ mApple x l i 2 = tB (x 6 (l * 20 + i)) ∧ mApple x l i 3 = sWr x l (x 6 (l * 20 + i)) :=
  ⟨(if_neg (by omega)).trans ((if_neg (by omega)).trans rfl), (if_neg (by omega)).trans ((if_neg (by omega)).trans rfl), (if_neg (by omega)).trans ((if_neg (by omega)).trans rfl), (if_neg (by omega)).trans ((if_neg (by omega)).trans rfl)⟩
theorem mApple_out {x : Nat → Int → Int} {l i : Int} (hl : 0 ≤ l ∧ l ≤ 4) (h0 : 0 ≤ i) (hi : x 5 l ≤ i) : mApple x l i 0 = -4 := (if_neg (by omega)).trans (if_pos hi)
theorem sWi_4 (x : Nat → Int → Int) : sWi x 4 = 0 := by
  have key : ∀ n : Nat, jSum (fun i => sWr x 4 (x 6 (4 * 20 + i))) n = 0 := by
    intro n
    induction n with
    | zero => rfl
    | succ n ih =>
      unfold jSum
      rw [ih]
      rfl
  exact key _
theorem lrU_neg (y : Int → Int) (o : Int) (n : Nat) : lrU y o n = -4 ∨ 0 ≤ lrU y o n := by
  induction n with
  | zero => exact Or.inl rfl
  | succ n ih =>
    have := tR_rng (y (o + n))
    unfold lrU
    split <;> omega
theorem dC_sh : ∀ a b : Int, 0 ≤ a ∧ a ≤ 80 → 1 ≤ b ∧ b ≤ 80 → dC (FP.ddiv (FP.i2d (jI a)) (FP.i2d (jI b))) (FP.ddiv (FP.i2d (jI a)) (FP.i2d (jI b))) = 0 := by
  intro a b ha hb
  have key : ∀ m : Nat, m < 81 → ∀ n : Nat, n < 80 → dC (FP.ddiv (FP.i2d (jI (m : Int))) (FP.i2d (jI ((n + 1 : Nat) : Int)))) (FP.ddiv (FP.i2d (jI (m : Int))) (FP.i2d (jI ((n + 1 : Nat) : Int)))) = 0 := by decide +kernel
  have h := key a.toNat (by omega) (b - 1).toNat (by omega)
  have e1 : (a.toNat : Int) = a := by omega
  have e2 : (((b - 1).toNat + 1 : Nat) : Int) = b := by omega
  rw [e1, e2] at h
  exact h
theorem dC_1 : dC 0x3ff0000000000000 0x3ff0000000000000 = 0 := by decide +kernel
theorem jSum_5 (g : Int → Int) : jSum g 5 = jSum g 4 + g 4 := rfl
theorem kL_areBoxes_X7_box : jKv mL_areBoxes 41 yX7_box wsX7_box rmX7_box 2 := ⟨gL_areBoxes_X7_box, ⟨_, _, _, _, rfl, by decide⟩, by decide +kernel, rfl, rfl, by decide⟩
theorem kL_areBoxes_X7_apple : jKv mL_areBoxes 44 yX7_apple wsX7_apple rmX7_apple 3 := ⟨gL_areBoxes_X7_apple, ⟨_, _, _, _, rfl, by decide⟩, by decide +kernel, rfl, rfl, by decide⟩
theorem kL_areBoxes_X7_count : jKv mL_areBoxes 37 yX7_count wsX7_count rmX7_count 1 := ⟨gL_areBoxes_X7_count, ⟨_, _, _, _, rfl, by decide⟩, by decide +kernel, rfl, rfl, by decide⟩
theorem kL_areBoxes_X7_right : jKv mL_areBoxes 47 yX7_right wsX7_right rmX7_right 0 := ⟨gL_areBoxes_X7_right, ⟨_, _, _, _, rfl, by decide⟩, by decide +kernel, rfl, rfl, by decide⟩
theorem kL_areBoxes_L_lane : jKs mL_areBoxes 23 yL_lane wsL_lane rmL_lane 3 := ⟨gL_areBoxes_L_lane, ⟨_, _, _, _, rfl, by decide⟩, by decide +kernel, rfl, rfl, by decide⟩
set_option maxRecDepth 100000 in
set_option maxHeartbeats 4000000 in
theorem c_L_areBoxes (E : jE) (ad qh : Nat → Nat → Nat) (S H : Nat → Nat → Int → Int) (P : Nat → Int → Int) (v : Int → Int) (ba na ua ea : Nat) (N : Int) (c b n u e : Int → Int) (hc0 : cOK S H P v) (hi : sInv (S 0) N) (hN : N ≤ 60) (hr : KRel 1 (S 0) c b n u e) : jMI E yL_areBoxes wsL_areBoxes rmL_areBoxes [.ref (ad 7 0), .ref ba, .ref na, .ref ua, .ref ea] (jFl [wEye E ad qh S H P v, wA E ba 60 b, wA E na 16 n, wA E ua 36 u, wA E ea 64 e]) (1) (jFl [wEye E ad qh S H P v, wA E ba 60 b, wA E na 16 n, wA E ua 36 u, wA E ea 64 e]) := by
  refine jMI_of (cc := cL_areBoxes) (maxL := 16) (ret := (some .boolean)) [(0, .ref (ad 7 0)), (1, .ref ba), (2, .ref na), (3, .ref ua), (4, .ref ea)] (by decide) rfl rfl (Nat.le_of_ble_eq_true rfl) (fun C => ?_)
  show jG mL_areBoxes E C (jQi E C (1) (jFl [wEye E ad qh S H P v, wA E ba 60 b, wA E na 16 n, wA E ua 36 u, wA E ea 64 e])) 0 0 0 [(0, .ref (ad 7 0)), (1, .ref ba), (2, .ref na), (3, .ref ua), (4, .ref ea)] [] (jFl [wEye E ad qh S H P v, wA E ba 60 b, wA E na 16 n, wA E ua 36 u, wA E ea 64 e])
  have hx : sOK (S 0) := hc0.1 0
  have r5 : ∀ i, 0 ≤ S 0 5 i ∧ S 0 5 i ≤ 512 ∧ (i < 4 → S 0 5 i ≤ 20) := hx 5
  have r6 : ∀ i, 0 ≤ S 0 6 i ∧ S 0 6 i < 404000 := hx 6
  have r8 : ∀ i, S 0 8 i = 0 ∨ S 0 8 i = 1 := hx 8
  have r54 := r5 4
  have hb4 := hr.2.1.2.1
  have tot6 : S 0 5 4 ≤ 60 := by
    have a := (jSum_part (g := S 0 5) 5 (fun i _ => (r5 i).1)).2 4 (by omega)
    have a' : S 0 5 4 ≤ jSum (S 0 5) 5 := a
    have r2 : ∀ i, 0 ≤ S 0 2 i ∧ S 0 2 i ≤ 2 := hx 2
    have b := (jSum_part (g := S 0 2) 12 (fun i _ => (r2 i).1)).1
    have t := hi.2.2
    unfold sTot at t
    omega
  have w8 := hr.2.2.1.2.1.1
  have ww := sWa_rng hx
  have wa : sWa (S 0) = jSum (sWi (S 0)) 4 := rfl
  rw [wa] at ww
  obtain ⟨mk4, mk5⟩ : mCount (S 0) v 4 = jSum (S 0 5) 5 ∧ mCount (S 0) v 5 = sWa (S 0) := ⟨rfl, rfl⟩
  refine j_iconst 1 dL_areBoxes_0 rfl ?_
  refine j_istore 3 [_, _, _, _, _, _] dL_areBoxes_1 rfl (by decide) rfl ?_
  refine j_iconst 4 dL_areBoxes_3 rfl ?_
  refine j_istore 6 [_, _, _, _, _, _, _] dL_areBoxes_4 rfl (by decide) rfl ?_
  refine j_aload_n 2 7 dL_areBoxes_6 rfl rfl ?_
  refine j_iconst 8 dL_areBoxes_7 rfl ?_
  refine j_iconst 9 dL_areBoxes_8 rfl ?_
  refine j_callViB (wcs := [_]) (cs := [_]) 0 0 [0] 12 [_, _, _, _, _] (c_X7_box E _ _ _ _ _ _ _ _ (by exact hc0) (by omega) (by omega)) (jFl_1 _) (jFl_1 _) rfl kL_areBoxes_X7_box rfl rfl rfl rfl rfl rfl rfl (Nat.le_of_ble_eq_true rfl) (by decide) dL_areBoxes_9 rfl ?_
  refine j_iconst 13 dL_areBoxes_12 rfl ?_
  refine j_eqn 16 dL_areBoxes_13 rfl (by exact if_pos (by omega)) ⟨64, by decide⟩ ?_
  refine j_aload_n 2 17 dL_areBoxes_16 rfl rfl ?_
  refine j_iconst 18 dL_areBoxes_17 rfl ?_
  refine j_bipush 20 dL_areBoxes_18 rfl (by decide) ?_
  refine j_callViB (wcs := [_]) (cs := [_]) 0 0 [0] 23 [_, _, _, _, _] (c_X7_box E _ _ _ _ _ _ _ _ (by exact hc0) (by omega) (by omega)) (jFl_1 _) (jFl_1 _) rfl kL_areBoxes_X7_box rfl rfl rfl rfl rfl rfl rfl (Nat.le_of_ble_eq_true rfl) (by decide) dL_areBoxes_20 rfl ?_
  refine j_iconst 24 dL_areBoxes_23 rfl ?_
  refine j_eqn 27 dL_areBoxes_24 rfl (by exact if_pos (by omega)) ⟨64, by decide⟩ ?_
  refine j_aload_n 2 28 dL_areBoxes_27 rfl rfl ?_
  refine j_iconst 29 dL_areBoxes_28 rfl ?_
  refine j_iconst 30 dL_areBoxes_29 rfl ?_
  refine j_iconst 31 dL_areBoxes_30 rfl ?_
  refine j_callViB (wcs := [_]) (cs := [_]) 0 0 [0] 34 [_, _, _, _, _] (c_X7_apple E _ _ _ _ _ _ _ _ _ (by exact hc0) (by omega) (by omega) (by omega)) (jFl_1 _) (jFl_1 _) rfl kL_areBoxes_X7_apple rfl rfl rfl rfl rfl rfl rfl (Nat.le_of_ble_eq_true rfl) (by decide) dL_areBoxes_31 rfl ?_
  refine j_iconst 35 dL_areBoxes_34 rfl ?_
  refine j_eqn 38 dL_areBoxes_35 rfl (by exact if_pos (by omega)) ⟨64, by decide⟩ ?_
  refine j_aload_n 2 39 dL_areBoxes_38 rfl rfl ?_
  refine j_iconst 40 dL_areBoxes_39 rfl ?_
  refine j_iconst 41 dL_areBoxes_40 rfl ?_
  refine j_iconst 42 dL_areBoxes_41 rfl ?_
  refine j_callViB (wcs := [_]) (cs := [_]) 0 0 [0] 45 [_, _, _, _, _] (c_X7_apple E _ _ _ _ _ _ _ _ _ (by exact hc0) (by omega) (by omega) (by omega)) (jFl_1 _) (jFl_1 _) rfl kL_areBoxes_X7_apple rfl rfl rfl rfl rfl rfl rfl (Nat.le_of_ble_eq_true rfl) (by decide) dL_areBoxes_42 rfl ?_
  refine j_iconst 46 dL_areBoxes_45 rfl ?_
  refine j_eqn 49 dL_areBoxes_46 rfl (by exact if_pos (by omega)) ⟨64, by decide⟩ ?_
  refine j_aload_n 2 50 dL_areBoxes_49 rfl rfl ?_
  refine j_iconst 51 dL_areBoxes_50 rfl ?_
  refine j_iconst 52 dL_areBoxes_51 rfl ?_
  refine j_iconst 53 dL_areBoxes_52 rfl ?_
  refine j_callViB (wcs := [_]) (cs := [_]) 0 0 [0] 56 [_, _, _, _, _] (c_X7_apple E _ _ _ _ _ _ _ _ _ (by exact hc0) (by omega) (by omega) (by omega)) (jFl_1 _) (jFl_1 _) rfl kL_areBoxes_X7_apple rfl rfl rfl rfl rfl rfl rfl (Nat.le_of_ble_eq_true rfl) (by decide) dL_areBoxes_53 rfl ?_
  refine j_iconst 57 dL_areBoxes_56 rfl ?_
  refine j_eqn 60 dL_areBoxes_57 rfl (by exact if_pos (by omega)) ⟨64, by decide⟩ ?_
  refine j_iconst 61 dL_areBoxes_60 rfl ?_
  refine j_goto 65 dL_areBoxes_61 (by decide) ?_
  refine j_istore 67 [_, _, _, _, _, _, _, _] dL_areBoxes_65 rfl (by decide) rfl ?_
  refine j_iconst 68 dL_areBoxes_67 rfl ?_
  refine j_istore 70 [_, _, _, _, _, _, _, _, _] dL_areBoxes_68 rfl (by decide) rfl ?_
  have key70 : ∀ (fu i : Nat), 4 < i + fu → i ≤ 4 → jG mL_areBoxes E C (jQi E C (1) (jFl [wEye E ad qh S H P v, wA E ba 60 b, wA E na 16 n, wA E ua 36 u, wA E ea 64 e])) 0 0 70 [(0, .ref (ad 7 0)), (1, .ref ba), (2, .ref na), (3, .ref ua), (4, .ref ea), (5, .int (jI (jSum (S 0 5) i))), (6, .int (jI (jSum (sWi (S 0)) i))), (7, .int (jI 1)), (8, .int (jI (i : Int)))] [] (jFl [wEye E ad qh S H P v, wA E ba 60 b, wA E na 16 n, wA E ua 36 u, wA E ea 64 e]) := by
    intro fu
    induction fu with
    | zero => intro i h1 h2; exact absurd h1 (by omega)
    | succ fu ih =>
      intro i h1 h2
      refine j_iload 8 72 dL_areBoxes_70 rfl rfl ?_
      refine j_iconst 73 dL_areBoxes_72 rfl ?_
      refine j_icmp_ge 432 76 dL_areBoxes_73 rfl (by decide) (by omega) (by omega) (fun h_73 => ?_) (fun h_73 => ?_)
      · skip
        obtain rfl : i = 4 := by omega
        refine j_iconst 433 dL_areBoxes_432 rfl ?_
        refine j_istore 435 [_, _, _, _, _, _, _, _, _] dL_areBoxes_433 rfl (by decide) rfl ?_
        have key435 : ∀ (fu i : Nat), (S 0 5 4).toNat < i + fu → (i : Int) ≤ S 0 5 4 → jG mL_areBoxes E C (jQi E C (1) (jFl [wEye E ad qh S H P v, wA E ba 60 b, wA E na 16 n, wA E ua 36 u, wA E ea 64 e])) 0 0 435 [(0, .ref (ad 7 0)), (1, .ref ba), (2, .ref na), (3, .ref ua), (4, .ref ea), (5, .int (jI (jSum (S 0 5) 4))), (6, .int (jI (jSum (sWi (S 0)) 4))), (7, .int (jI 1)), (8, .int (jI (i : Int)))] [] (jFl [wEye E ad qh S H P v, wA E ba 60 b, wA E na 16 n, wA E ua 36 u, wA E ea 64 e]) := by
          intro fe
          induction fe with
          | zero => intro i h1 h2; exact absurd h1 (by omega)
          | succ fe ihe =>
            intro i h1 h2
            refine j_iload 8 437 dL_areBoxes_435 rfl rfl ?_
            refine j_aload_n 2 438 dL_areBoxes_437 rfl rfl ?_
            refine j_iconst 439 dL_areBoxes_438 rfl ?_
            refine j_ialdB 2 0 440 dL_areBoxes_439 rfl rfl rfl (by decide) (by omega) ?_
            refine j_icmp_ge 549 443 dL_areBoxes_440 rfl (by decide) (by omega) (by omega) (fun h_440 => ?_) (fun h_440 => ?_)
            · skip
              refine j_iload 7 551 dL_areBoxes_549 rfl rfl ?_
              refine j_if_eq 640 554 dL_areBoxes_551 rfl (by decide) (by decide) (fun h => absurd h (by decide)) (fun _ => ?_)
              refine j_aload_n 0 555 dL_areBoxes_554 rfl rfl ?_
              refine j_iconst 556 dL_areBoxes_555 rfl ?_
              refine j_iconst 557 dL_areBoxes_556 rfl ?_
              refine j_callViB (wcs := [_]) (cs := [_]) 0 0 [0] 560 [_, _, _, _, _] (c_X7_box E _ _ _ _ _ _ _ _ (by exact hc0) (by omega) (by omega)) (jFl_1 _) (jFl_1 _) rfl kL_areBoxes_X7_box rfl rfl rfl rfl rfl rfl rfl (Nat.le_of_ble_eq_true rfl) (by decide) dL_areBoxes_557 rfl ?_
              refine j_aload_n 2 561 dL_areBoxes_560 rfl rfl ?_
              refine j_iconst 562 dL_areBoxes_561 rfl ?_
              refine j_ialdB 2 0 563 dL_areBoxes_562 rfl rfl rfl (by decide) (by omega) ?_
              refine j_eqn 566 dL_areBoxes_563 rfl (by rw [hb4]; exact (mBox_at (by omega)).1) ⟨640, by decide⟩ ?_
              refine j_aload_n 0 567 dL_areBoxes_566 rfl rfl ?_
              refine j_iconst 568 dL_areBoxes_567 rfl ?_
              refine j_iconst 569 dL_areBoxes_568 rfl ?_
              refine j_callViB (wcs := [_]) (cs := [_]) 0 0 [0] 572 [_, _, _, _, _] (c_X7_box E _ _ _ _ _ _ _ _ (by exact hc0) (by omega) (by omega)) (jFl_1 _) (jFl_1 _) rfl kL_areBoxes_X7_box rfl rfl rfl rfl rfl rfl rfl (Nat.le_of_ble_eq_true rfl) (by decide) dL_areBoxes_569 rfl ?_
              have m2 : mBox (S 0) 4 2 = 0 := (mBox_at (by omega)).2.2.1.trans (sWi_4 _)
              refine j_if_ne 640 575 dL_areBoxes_572 rfl (by decide) (by omega) (fun h => absurd h (by omega)) (fun h_572 => ?_)
              refine j_aload_n 0 576 dL_areBoxes_575 rfl rfl ?_
              refine j_iconst 577 dL_areBoxes_576 rfl ?_
              refine j_iconst 578 dL_areBoxes_577 rfl ?_
              refine j_callViB (wcs := [_]) (cs := [_]) 0 0 [0] 581 [_, _, _, _, _] (c_X7_box E _ _ _ _ _ _ _ _ (by exact hc0) (by omega) (by omega)) (jFl_1 _) (jFl_1 _) rfl kL_areBoxes_X7_box rfl rfl rfl rfl rfl rfl rfl (Nat.le_of_ble_eq_true rfl) (by decide) dL_areBoxes_578 rfl ?_
              refine j_iconst 582 dL_areBoxes_581 rfl ?_
              refine j_eqn 585 dL_areBoxes_582 rfl (by exact (mBox_at (by omega)).2.2.2.2.2.trans (if_pos (Or.inl rfl))) ⟨640, by decide⟩ ?_
              refine j_aload_n 0 586 dL_areBoxes_585 rfl rfl ?_
              refine j_iconst 587 dL_areBoxes_586 rfl ?_
              refine j_callViB (wcs := [_]) (cs := [_]) 0 0 [0] 590 [_, _, _, _, _] (c_X7_count E _ _ _ _ _ _ _ (by exact hc0) (by omega)) (jFl_1 _) (jFl_1 _) rfl kL_areBoxes_X7_count rfl rfl rfl rfl rfl rfl rfl (Nat.le_of_ble_eq_true rfl) (by decide) dL_areBoxes_587 rfl ?_
              refine j_iload 5 592 dL_areBoxes_590 rfl rfl ?_
              refine j_aload_n 2 593 dL_areBoxes_592 rfl rfl ?_
              refine j_iconst 594 dL_areBoxes_593 rfl ?_
              refine j_ialdB 2 0 595 dL_areBoxes_594 rfl rfl rfl (by decide) (by omega) ?_
              refine j_iadd 596 dL_areBoxes_595 rfl ?_
              refine j_eqn 599 dL_areBoxes_596 rfl (by rw [mk4, hb4]; rfl) ⟨640, by decide⟩ ?_
              refine j_aload_n 0 600 dL_areBoxes_599 rfl rfl ?_
              refine j_iconst 601 dL_areBoxes_600 rfl ?_
              refine j_callViB (wcs := [_]) (cs := [_]) 0 0 [0] 604 [_, _, _, _, _] (c_X7_count E _ _ _ _ _ _ _ (by exact hc0) (by omega)) (jFl_1 _) (jFl_1 _) rfl kL_areBoxes_X7_count rfl rfl rfl rfl rfl rfl rfl (Nat.le_of_ble_eq_true rfl) (by decide) dL_areBoxes_601 rfl ?_
              refine j_iload 6 606 dL_areBoxes_604 rfl rfl ?_
              refine j_eqn 609 dL_areBoxes_606 rfl (by exact mk5) ⟨640, by decide⟩ ?_
              refine j_aload_n 0 610 dL_areBoxes_609 rfl rfl ?_
              refine j_callVdB (wcs := [_]) (cs := [_]) 0 0 [0] 613 [_, _, _, _, _] (c_X7_right E _ _ _ _ _ _ (by exact hc0)) (jFl_1 _) (jFl_1 _) rfl kL_areBoxes_X7_right rfl rfl rfl rfl rfl rfl rfl (Nat.le_of_ble_eq_true rfl) (by decide) dL_areBoxes_610 rfl ?_
              refine j_iload 5 615 dL_areBoxes_613 rfl rfl ?_
              have a80 : 0 ≤ jSum (S 0 5) 4 ∧ jSum (S 0 5) 4 ≤ 80 := by omega
              refine j_if_ne 622 618 dL_areBoxes_615 rfl (by decide) (by omega) (fun h_615 => ?_) (fun h_615 => ?_)
              · skip
                have es : shD1 (sWa (S 0)) (jSum (S 0 5) 4) = FP.ddiv (FP.i2d (jI (jSum (S 0 5) 4 - jSum (sWi (S 0)) 4))) (FP.i2d (jI (jSum (S 0 5) 4))) := if_neg (by omega)
                have dz : dC (shD1 (sWa (S 0)) (jSum (S 0 5) 4)) (FP.ddiv (FP.i2d (jI (jSum (S 0 5) 4 - jSum (sWi (S 0)) 4))) (FP.i2d (jI (jSum (S 0 5) 4)))) = 0 := by rw [es]; exact dC_sh _ _ (by omega) (by omega)
                refine j_iload 5 624 dL_areBoxes_622 rfl rfl ?_
                refine j_iload 6 626 dL_areBoxes_624 rfl rfl ?_
                refine j_isub 627 dL_areBoxes_626 rfl ?_
                refine j_i2d 628 dL_areBoxes_627 rfl ?_
                refine j_iload 5 630 dL_areBoxes_628 rfl rfl ?_
                refine j_i2d 631 dL_areBoxes_630 rfl ?_
                refine j_ddiv 632 dL_areBoxes_631 rfl (by omega) (by omega) ?_
                refine j_dcmp 633 dL_areBoxes_632 rfl ?_
                refine j_if_ne 640 636 dL_areBoxes_633 rfl (by decide) (by exact dC_rng _ _) (fun h => absurd h (by exact fun q => q dz)) (fun h_633 => ?_)
                refine j_iconst 637 dL_areBoxes_636 rfl ?_
                refine j_goto 641 dL_areBoxes_637 (by decide) ?_
                exact j_zret dL_areBoxes_641 rfl (by rfl) (by decide) (by rfl)
              · skip
                have es : shD1 (sWa (S 0)) (jSum (S 0 5) 4) = 0x3ff0000000000000 := if_pos (by omega)
                have dz : dC (shD1 (sWa (S 0)) (jSum (S 0 5) 4)) 0x3ff0000000000000 = 0 := by rw [es]; exact dC_1
                refine j_dconst1 619 dL_areBoxes_618 rfl ?_
                refine j_goto 632 dL_areBoxes_619 (by decide) ?_
                refine j_dcmp 633 dL_areBoxes_632 rfl ?_
                refine j_if_ne 640 636 dL_areBoxes_633 rfl (by decide) (by exact dC_rng _ _) (fun h => absurd h (by exact fun q => q dz)) (fun h_633 => ?_)
                refine j_iconst 637 dL_areBoxes_636 rfl ?_
                refine j_goto 641 dL_areBoxes_637 (by decide) ?_
                exact j_zret dL_areBoxes_641 rfl (by rfl) (by decide) (by rfl)
            · skip
              have hj : (i : Int) < S 0 5 4 := by omega
              have bj := hr.2.1.2.2 i (by omega) hj
              obtain ⟨ma0, ma1, ma2, ma3⟩ := mApple_at (x := S 0) (l := 4) (by omega) (show 0 ≤ (i : Int) by omega) hj
              have r6j := r6 (4 * 20 + (i : Int))
              obtain ⟨q1, q2, q3⟩ := pk_parts r6j.1
              have q4 := pk_rng (t := S 0 6 (4 * 20 + (i : Int))) (by omega)
              have m3 : mApple (S 0) 4 i 3 = 0 := ma3
              refine j_iload 8 445 dL_areBoxes_443 rfl rfl ?_
              refine j_bipush 447 dL_areBoxes_445 rfl (by decide) ?_
              refine j_icmp_ge 549 450 dL_areBoxes_447 rfl (by decide) (by omega) (by omega) (fun h => absurd h (by omega)) (fun h_447 => ?_)
              refine j_aload_n 2 451 dL_areBoxes_450 rfl rfl ?_
              refine j_iconst 452 dL_areBoxes_451 rfl ?_
              refine j_ialdB 2 0 453 dL_areBoxes_452 rfl rfl rfl (by decide) (by omega) ?_
              refine j_bipush 455 dL_areBoxes_453 rfl (by decide) ?_
              refine j_icmp_ge 549 458 dL_areBoxes_455 rfl (by decide) (by omega) (by omega) (fun h => absurd h (by omega)) (fun h_455 => ?_)
              refine j_iload 7 460 dL_areBoxes_458 rfl rfl ?_
              refine j_if_eq 540 463 dL_areBoxes_460 rfl (by decide) (by decide) (fun h => absurd h (by decide)) (fun _ => ?_)
              refine j_aload_n 0 464 dL_areBoxes_463 rfl rfl ?_
              refine j_iconst 465 dL_areBoxes_464 rfl ?_
              refine j_iload 8 467 dL_areBoxes_465 rfl rfl ?_
              refine j_iconst 468 dL_areBoxes_467 rfl ?_
              refine j_callViB (wcs := [_]) (cs := [_]) 0 0 [0] 471 [_, _, _, _, _] (c_X7_apple E _ _ _ _ _ _ _ _ _ (by exact hc0) (by omega) (by omega) (by omega)) (jFl_1 _) (jFl_1 _) rfl kL_areBoxes_X7_apple rfl rfl rfl rfl rfl rfl rfl (Nat.le_of_ble_eq_true rfl) (by decide) dL_areBoxes_468 rfl ?_
              refine j_aload 4 473 dL_areBoxes_471 rfl rfl ?_
              refine j_iload 8 475 dL_areBoxes_473 rfl rfl ?_
              refine j_ialdB 4 0 476 dL_areBoxes_475 rfl rfl rfl (by decide) (by omega) ?_
              rw [bj]
              refine j_sipush 479 dL_areBoxes_476 rfl (by decide) ?_
              refine j_idiv 480 dL_areBoxes_479 rfl (by omega) (by decide) ?_
              refine j_eqn 483 dL_areBoxes_480 rfl (by rw [ma0, q1]) ⟨540, by decide⟩ ?_
              refine j_aload_n 0 484 dL_areBoxes_483 rfl rfl ?_
              refine j_iconst 485 dL_areBoxes_484 rfl ?_
              refine j_iload 8 487 dL_areBoxes_485 rfl rfl ?_
              refine j_iconst 488 dL_areBoxes_487 rfl ?_
              refine j_callViB (wcs := [_]) (cs := [_]) 0 0 [0] 491 [_, _, _, _, _] (c_X7_apple E _ _ _ _ _ _ _ _ _ (by exact hc0) (by omega) (by omega) (by omega)) (jFl_1 _) (jFl_1 _) rfl kL_areBoxes_X7_apple rfl rfl rfl rfl rfl rfl rfl (Nat.le_of_ble_eq_true rfl) (by decide) dL_areBoxes_488 rfl ?_
              refine j_aload 4 493 dL_areBoxes_491 rfl rfl ?_
              refine j_iload 8 495 dL_areBoxes_493 rfl rfl ?_
              refine j_ialdB 4 0 496 dL_areBoxes_495 rfl rfl rfl (by decide) (by omega) ?_
              rw [bj]
              refine j_bipush 498 dL_areBoxes_496 rfl (by decide) ?_
              refine j_idiv 499 dL_areBoxes_498 rfl (by omega) (by decide) ?_
              refine j_sipush 502 dL_areBoxes_499 rfl (by decide) ?_
              refine j_irem 503 dL_areBoxes_502 rfl (by omega) (by decide) ?_
              refine j_eqn 506 dL_areBoxes_503 rfl (by rw [ma1, q2]) ⟨540, by decide⟩ ?_
              refine j_aload_n 0 507 dL_areBoxes_506 rfl rfl ?_
              refine j_iconst 508 dL_areBoxes_507 rfl ?_
              refine j_iload 8 510 dL_areBoxes_508 rfl rfl ?_
              refine j_iconst 511 dL_areBoxes_510 rfl ?_
              refine j_callViB (wcs := [_]) (cs := [_]) 0 0 [0] 514 [_, _, _, _, _] (c_X7_apple E _ _ _ _ _ _ _ _ _ (by exact hc0) (by omega) (by omega) (by omega)) (jFl_1 _) (jFl_1 _) rfl kL_areBoxes_X7_apple rfl rfl rfl rfl rfl rfl rfl (Nat.le_of_ble_eq_true rfl) (by decide) dL_areBoxes_511 rfl ?_
              refine j_aload 4 516 dL_areBoxes_514 rfl rfl ?_
              refine j_iload 8 518 dL_areBoxes_516 rfl rfl ?_
              refine j_ialdB 4 0 519 dL_areBoxes_518 rfl rfl rfl (by decide) (by omega) ?_
              rw [bj]
              refine j_bipush 521 dL_areBoxes_519 rfl (by decide) ?_
              refine j_irem 522 dL_areBoxes_521 rfl (by omega) (by decide) ?_
              refine j_eqn 525 dL_areBoxes_522 rfl (by rw [ma2, q3]) ⟨540, by decide⟩ ?_
              refine j_aload_n 0 526 dL_areBoxes_525 rfl rfl ?_
              refine j_iconst 527 dL_areBoxes_526 rfl ?_
              refine j_iload 8 529 dL_areBoxes_527 rfl rfl ?_
              refine j_iconst 530 dL_areBoxes_529 rfl ?_
              refine j_callViB (wcs := [_]) (cs := [_]) 0 0 [0] 533 [_, _, _, _, _] (c_X7_apple E _ _ _ _ _ _ _ _ _ (by exact hc0) (by omega) (by omega) (by omega)) (jFl_1 _) (jFl_1 _) rfl kL_areBoxes_X7_apple rfl rfl rfl rfl rfl rfl rfl (Nat.le_of_ble_eq_true rfl) (by decide) dL_areBoxes_530 rfl ?_
              refine j_if_ne 540 536 dL_areBoxes_533 rfl (by decide) (by omega) (fun h => absurd h (by omega)) (fun h_533 => ?_)
              refine j_iconst 537 dL_areBoxes_536 rfl ?_
              refine j_goto 541 dL_areBoxes_537 (by decide) ?_
              refine j_istore 543 [_, _, _, _, _, _, _, _, _] dL_areBoxes_541 rfl (by decide) rfl ?_
              refine j_iinc 8 546 [_, _, _, _, _, _, _, _, _] dL_areBoxes_543 rfl rfl (by decide) rfl ?_
              refine j_goto 435 dL_areBoxes_546 (by decide) ?_
              refine j_perm [2, 3, 4, 5, 6, 7, 8, 1, 0] rfl ?_
              exact ihe (i + 1) (by omega) (by omega)
        refine j_perm [1, 2, 3, 4, 5, 6, 7, 8, 0] rfl ?_
        exact key435 ((S 0 5 4).toNat + 1) 0 (by omega) (by omega)
      · skip
        have hl : 0 ≤ (i : Int) ∧ (i : Int) ≤ 4 := by omega
        obtain ⟨n1, n2, n3⟩ := hr.2.1.1 i (by omega) (by omega)
        obtain ⟨mb0, mb1, mb2, mb3, mb4, mb5⟩ := mBox_at (x := S 0) hl
        have r5i := r5 i
        have w8i := kWat_at hr.2.2.1.2.1 (l := (i : Int)) (by omega)
        have r8i := r8 i
        refine j_iload 7 78 dL_areBoxes_76 rfl rfl ?_
        refine j_if_eq 432 81 dL_areBoxes_78 rfl (by decide) (by decide) (fun h => absurd h (by decide)) (fun _ => ?_)
        refine j_iconst 82 dL_areBoxes_81 rfl ?_
        refine j_istore 84 [_, _, _, _, _, _, _, _, _, _] dL_areBoxes_82 rfl (by decide) rfl ?_
        refine j_iconst 85 dL_areBoxes_84 rfl ?_
        refine j_istore 87 [_, _, _, _, _, _, _, _, _, _, _] dL_areBoxes_85 rfl (by decide) rfl ?_
        refine j_bipush 89 dL_areBoxes_87 rfl (by decide) ?_
        refine j_istore 91 [_, _, _, _, _, _, _, _, _, _, _, _] dL_areBoxes_89 rfl (by decide) rfl ?_
        refine j_bipush 93 dL_areBoxes_91 rfl (by decide) ?_
        refine j_istore 95 [_, _, _, _, _, _, _, _, _, _, _, _, _] dL_areBoxes_93 rfl (by decide) rfl ?_
        refine j_iconst 96 dL_areBoxes_95 rfl ?_
        refine j_istore 98 [_, _, _, _, _, _, _, _, _, _, _, _, _, _] dL_areBoxes_96 rfl (by decide) rfl ?_
        have key98 : ∀ (fg j : Nat), (S 0 5 i).toNat < j + fg → (j : Int) ≤ S 0 5 i → jG mL_areBoxes E C (jQi E C (1) (jFl [wEye E ad qh S H P v, wA E ba 60 b, wA E na 16 n, wA E ua 36 u, wA E ea 64 e])) 0 0 98 [(0, .ref (ad 7 0)), (1, .ref ba), (2, .ref na), (3, .ref ua), (4, .ref ea), (5, .int (jI (jSum (S 0 5) i))), (6, .int (jI (jSum (sWi (S 0)) i))), (7, .int (jI 1)), (8, .int (jI (i : Int))), (9, .int (jI (jSum (fun q => tW (S 0 6 ((i : Int) * 20 + q))) j))), (10, .int (jI (jSum (fun q => sWr (S 0) i (S 0 6 ((i : Int) * 20 + q))) j))), (11, .int (jI (lrU (S 0 6) ((i : Int) * 20) j))), (12, .int (jI (gbU (S 0 6) ((i : Int) * 20) j))), (13, .int (jI (j : Int)))] [] (jFl [wEye E ad qh S H P v, wA E ba 60 b, wA E na 16 n, wA E ua 36 u, wA E ea 64 e]) := by
          intro fg
          induction fg with
          | zero => intro j h3 h4; exact absurd h3 (by omega)
          | succ fg ihj =>
            intro j h3 h4
            refine j_iload 13 100 dL_areBoxes_98 rfl rfl ?_
            refine j_aload_n 2 101 dL_areBoxes_100 rfl rfl ?_
            refine j_iload 8 103 dL_areBoxes_101 rfl rfl ?_
            refine j_ialdB 2 0 104 dL_areBoxes_103 rfl rfl rfl (by decide) (by omega) ?_
            rw [n1]
            refine j_icmp_ge 301 107 dL_areBoxes_104 rfl (by decide) (by omega) (by omega) (fun h_104 => ?_) (fun h_104 => ?_)
            · skip
              obtain rfl : j = (S 0 5 i).toNat := by omega
              refine j_iload 5 303 dL_areBoxes_301 rfl rfl ?_
              refine j_aload_n 2 304 dL_areBoxes_303 rfl rfl ?_
              refine j_iload 8 306 dL_areBoxes_304 rfl rfl ?_
              refine j_ialdB 2 0 307 dL_areBoxes_306 rfl rfl rfl (by decide) (by omega) ?_
              rw [n1]
              refine j_iadd 308 dL_areBoxes_307 rfl ?_
              refine j_istore 310 [_, _, _, _, _, _, _, _, _, _, _, _, _, _] dL_areBoxes_308 rfl (by decide) rfl ?_
              refine j_iload 6 312 dL_areBoxes_310 rfl rfl ?_
              refine j_iload 10 314 dL_areBoxes_312 rfl rfl ?_
              refine j_iadd 315 dL_areBoxes_314 rfl ?_
              refine j_istore 317 [_, _, _, _, _, _, _, _, _, _, _, _, _, _] dL_areBoxes_315 rfl (by decide) rfl ?_
              refine j_iload 7 319 dL_areBoxes_317 rfl rfl ?_
              refine j_if_eq 423 322 dL_areBoxes_319 rfl (by decide) (by decide) (fun h => absurd h (by decide)) (fun _ => ?_)
              refine j_aload_n 2 323 dL_areBoxes_322 rfl rfl ?_
              refine j_iload 8 325 dL_areBoxes_323 rfl rfl ?_
              refine j_aload_n 4 326 dL_areBoxes_325 rfl rfl ?_
              refine j_iload 8 328 dL_areBoxes_326 rfl rfl ?_
              refine j_ialdB 2 0 329 dL_areBoxes_328 rfl rfl rfl (by decide) (by omega) ?_
              refine j_iconst 330 dL_areBoxes_329 rfl ?_
              refine j_callViB (wcs := [_]) (cs := [_]) 0 0 [0] 333 [_, _, _, _, _] (c_X7_apple E _ _ _ _ _ _ _ _ _ (by exact hc0) (by omega) (by omega) (by omega)) (jFl_1 _) (jFl_1 _) rfl kL_areBoxes_X7_apple rfl rfl rfl rfl rfl rfl rfl (Nat.le_of_ble_eq_true rfl) (by decide) dL_areBoxes_330 rfl ?_
              refine j_bipush 335 dL_areBoxes_333 rfl (by decide) ?_
              refine j_eqn 338 dL_areBoxes_335 rfl (by exact mApple_out hl (by omega) (by omega)) ⟨423, by decide⟩ ?_
              refine j_aload_n 2 339 dL_areBoxes_338 rfl rfl ?_
              refine j_iload 8 341 dL_areBoxes_339 rfl rfl ?_
              refine j_iconst 342 dL_areBoxes_341 rfl ?_
              refine j_callViB (wcs := [_]) (cs := [_]) 0 0 [0] 345 [_, _, _, _, _] (c_X7_box E _ _ _ _ _ _ _ _ (by exact hc0) (by omega) (by omega)) (jFl_1 _) (jFl_1 _) rfl kL_areBoxes_X7_box rfl rfl rfl rfl rfl rfl rfl (Nat.le_of_ble_eq_true rfl) (by decide) dL_areBoxes_342 rfl ?_
              refine j_aload_n 4 346 dL_areBoxes_345 rfl rfl ?_
              refine j_iload 8 348 dL_areBoxes_346 rfl rfl ?_
              refine j_ialdB 2 0 349 dL_areBoxes_348 rfl rfl rfl (by decide) (by omega) ?_
              refine j_eqn 352 dL_areBoxes_349 rfl (by rw [mb0, n1]) ⟨423, by decide⟩ ?_
              refine j_aload_n 2 353 dL_areBoxes_352 rfl rfl ?_
              refine j_iload 8 355 dL_areBoxes_353 rfl rfl ?_
              refine j_iconst 356 dL_areBoxes_355 rfl ?_
              refine j_callViB (wcs := [_]) (cs := [_]) 0 0 [0] 359 [_, _, _, _, _] (c_X7_box E _ _ _ _ _ _ _ _ (by exact hc0) (by omega) (by omega)) (jFl_1 _) (jFl_1 _) rfl kL_areBoxes_X7_box rfl rfl rfl rfl rfl rfl rfl (Nat.le_of_ble_eq_true rfl) (by decide) dL_areBoxes_356 rfl ?_
              refine j_iload 9 361 dL_areBoxes_359 rfl rfl ?_
              refine j_eqn 364 dL_areBoxes_361 rfl (by exact mb1) ⟨423, by decide⟩ ?_
              refine j_aload_n 2 365 dL_areBoxes_364 rfl rfl ?_
              refine j_iload 8 367 dL_areBoxes_365 rfl rfl ?_
              refine j_iconst 368 dL_areBoxes_367 rfl ?_
              refine j_callViB (wcs := [_]) (cs := [_]) 0 0 [0] 371 [_, _, _, _, _] (c_X7_box E _ _ _ _ _ _ _ _ (by exact hc0) (by omega) (by omega)) (jFl_1 _) (jFl_1 _) rfl kL_areBoxes_X7_box rfl rfl rfl rfl rfl rfl rfl (Nat.le_of_ble_eq_true rfl) (by decide) dL_areBoxes_368 rfl ?_
              refine j_iload 10 373 dL_areBoxes_371 rfl rfl ?_
              refine j_eqn 376 dL_areBoxes_373 rfl (by exact mb2) ⟨423, by decide⟩ ?_
              refine j_aload_n 2 377 dL_areBoxes_376 rfl rfl ?_
              refine j_iload 8 379 dL_areBoxes_377 rfl rfl ?_
              refine j_iconst 380 dL_areBoxes_379 rfl ?_
              refine j_callViB (wcs := [_]) (cs := [_]) 0 0 [0] 383 [_, _, _, _, _] (c_X7_box E _ _ _ _ _ _ _ _ (by exact hc0) (by omega) (by omega)) (jFl_1 _) (jFl_1 _) rfl kL_areBoxes_X7_box rfl rfl rfl rfl rfl rfl rfl (Nat.le_of_ble_eq_true rfl) (by decide) dL_areBoxes_380 rfl ?_
              refine j_iload 11 385 dL_areBoxes_383 rfl rfl ?_
              refine j_eqn 388 dL_areBoxes_385 rfl (by exact mb3) ⟨423, by decide⟩ ?_
              refine j_aload_n 2 389 dL_areBoxes_388 rfl rfl ?_
              refine j_iload 8 391 dL_areBoxes_389 rfl rfl ?_
              refine j_iconst 392 dL_areBoxes_391 rfl ?_
              refine j_callViB (wcs := [_]) (cs := [_]) 0 0 [0] 395 [_, _, _, _, _] (c_X7_box E _ _ _ _ _ _ _ _ (by exact hc0) (by omega) (by omega)) (jFl_1 _) (jFl_1 _) rfl kL_areBoxes_X7_box rfl rfl rfl rfl rfl rfl rfl (Nat.le_of_ble_eq_true rfl) (by decide) dL_areBoxes_392 rfl ?_
              refine j_iload 12 397 dL_areBoxes_395 rfl rfl ?_
              refine j_eqn 400 dL_areBoxes_397 rfl (by exact mb4) ⟨423, by decide⟩ ?_
              refine j_aload_n 2 401 dL_areBoxes_400 rfl rfl ?_
              refine j_iload 8 403 dL_areBoxes_401 rfl rfl ?_
              refine j_iconst 404 dL_areBoxes_403 rfl ?_
              refine j_callViB (wcs := [_]) (cs := [_]) 0 0 [0] 407 [_, _, _, _, _] (c_X7_box E _ _ _ _ _ _ _ _ (by exact hc0) (by omega) (by omega)) (jFl_1 _) (jFl_1 _) rfl kL_areBoxes_X7_box rfl rfl rfl rfl rfl rfl rfl (Nat.le_of_ble_eq_true rfl) (by decide) dL_areBoxes_404 rfl ?_
              refine j_aload_n 4 408 dL_areBoxes_407 rfl rfl ?_
              refine j_bipush 410 dL_areBoxes_408 rfl (by decide) ?_
              refine j_ialdB 2 0 411 dL_areBoxes_410 rfl rfl rfl (by decide) (by omega) ?_
              refine j_iload 8 413 dL_areBoxes_411 rfl rfl ?_
              refine j_ishr_and 414 415 416 dL_areBoxes_413 dL_areBoxes_414 dL_areBoxes_415 rfl rfl rfl (by omega) (by omega) ?_
              refine j_eqn 419 dL_areBoxes_416 rfl (by rw [mb5, ← w8i]; rcases r8i with z | z; (rw [if_neg (by omega), z]); (rw [if_pos (Or.inr (by omega)), z])) ⟨423, by decide⟩ ?_
              refine j_iconst 420 dL_areBoxes_419 rfl ?_
              refine j_goto 424 dL_areBoxes_420 (by decide) ?_
              refine j_istore 426 [_, _, _, _, _, _, _, _, _, _, _, _, _, _] dL_areBoxes_424 rfl (by decide) rfl ?_
              refine j_iinc 8 429 [_, _, _, _, _, _, _, _, _, _, _, _, _, _] dL_areBoxes_426 rfl rfl (by decide) rfl ?_
              refine j_goto 70 dL_areBoxes_429 (by decide) ?_
              refine j_perm [4, 5, 6, 7, 8, 3, 2, 1, 0] rfl ?_
              exact ih (i + 1) (by omega) (by omega)
            · skip
              have hj : (j : Int) < S 0 5 i := by omega
              have bj := n3 j (by omega) hj
              obtain ⟨ma0, ma1, ma2, ma3⟩ := mApple_at (x := S 0) hl (show 0 ≤ (j : Int) by omega) hj
              have r6j := r6 ((i : Int) * 20 + j)
              obtain ⟨q1, q2, q3⟩ := pk_parts r6j.1
              have q4 := pk_rng (t := (S 0 6 ((i : Int) * 20 + (j : Int)))) (by omega)
              have g1 := tR_rng (S 0 6 ((i : Int) * 20 + (j : Int)))
              have g2 := tB_rng (S 0 6 ((i : Int) * 20 + (j : Int)))
              have lr := lrU_rng (S 0 6) ((i : Int) * 20) j
              have ln := lrU_neg (S 0 6) ((i : Int) * 20) j
              have gb := gbU_rng (S 0 6) ((i : Int) * 20) j
              have lw := sLn_rng hx (S 0 6 ((i : Int) * 20 + (j : Int)))
              have e3 : lrU (S 0 6) ((i : Int) * 20) (j + 1) = if lrU (S 0 6) ((i : Int) * 20) j = -4 ∨ tR (S 0 6 ((i : Int) * 20 + (j : Int))) < lrU (S 0 6) ((i : Int) * 20) j then tR (S 0 6 ((i : Int) * 20 + (j : Int))) else lrU (S 0 6) ((i : Int) * 20) j := rfl
              have e4 : gbU (S 0 6) ((i : Int) * 20) (j + 1) = if gbU (S 0 6) ((i : Int) * 20) j < tB (S 0 6 ((i : Int) * 20 + (j : Int))) then tB (S 0 6 ((i : Int) * 20 + (j : Int))) else gbU (S 0 6) ((i : Int) * 20) j := rfl
              have e5 : sWr (S 0) i (S 0 6 ((i : Int) * 20 + (j : Int))) = if sLn (S 0) (S 0 6 ((i : Int) * 20 + (j : Int))) = i then 0 else 1 := if_neg (by omega)
              refine j_aload_n 1 108 dL_areBoxes_107 rfl rfl ?_
              refine j_bipush 110 dL_areBoxes_108 rfl (by decide) ?_
              refine j_iload 8 112 dL_areBoxes_110 rfl rfl ?_
              refine j_imul 113 dL_areBoxes_112 rfl ?_
              refine j_iload 13 115 dL_areBoxes_113 rfl rfl ?_
              refine j_iadd 116 dL_areBoxes_115 rfl ?_
              refine j_ialdB 1 0 117 dL_areBoxes_116 rfl rfl rfl (by decide) (by omega) ?_
              rw [bj]
              refine j_istore 119 [_, _, _, _, _, _, _, _, _, _, _, _, _, _, _] dL_areBoxes_117 rfl (by decide) rfl ?_
              have key136 :  jG mL_areBoxes E C (jQi E C (1) (jFl [wEye E ad qh S H P v, wA E ba 60 b, wA E na 16 n, wA E ua 36 u, wA E ea 64 e])) 0 0 136 [(0, .ref (ad 7 0)), (1, .ref ba), (2, .ref na), (3, .ref ua), (4, .ref ea), (5, .int (jI (jSum (S 0 5) i))), (6, .int (jI (jSum (sWi (S 0)) i))), (7, .int (jI 1)), (8, .int (jI (i : Int))), (9, .int (jI (jSum (fun q => tW (S 0 6 ((i : Int) * 20 + q))) j))), (10, .int (jI (jSum (fun q => sWr (S 0) i (S 0 6 ((i : Int) * 20 + q))) j))), (11, .int (jI (lrU (S 0 6) ((i : Int) * 20) j))), (12, .int (jI (gbU (S 0 6) ((i : Int) * 20) j))), (13, .int (jI (j : Int))), (14, .int (jI (pk (S 0 6 ((i : Int) * 20 + (j : Int))))))] [.int (jI (sWr (S 0) i (S 0 6 ((i : Int) * 20 + (j : Int)))))] (jFl [wEye E ad qh S H P v, wA E ba 60 b, wA E na 16 n, wA E ua 36 u, wA E ea 64 e]) := by
                skip
                refine j_istore 138 [_, _, _, _, _, _, _, _, _, _, _, _, _, _, _, _] dL_areBoxes_136 rfl (by decide) rfl ?_
                refine j_iload 10 140 dL_areBoxes_138 rfl rfl ?_
                refine j_iload 15 142 dL_areBoxes_140 rfl rfl ?_
                refine j_sipush 145 dL_areBoxes_142 rfl (by decide) ?_
                refine j_idiv 146 dL_areBoxes_145 rfl (by omega) (by decide) ?_
                rw [q1]
                refine j_iadd 147 dL_areBoxes_146 rfl ?_
                refine j_istore 149 [_, _, _, _, _, _, _, _, _, _, _, _, _, _, _, _] dL_areBoxes_147 rfl (by decide) rfl ?_
                refine j_iload 11 151 dL_areBoxes_149 rfl rfl ?_
                refine j_iload 1 153 dL_areBoxes_151 rfl rfl ?_
                refine j_iadd 154 dL_areBoxes_153 rfl ?_
                refine j_istore 156 [_, _, _, _, _, _, _, _, _, _, _, _, _, _, _, _] dL_areBoxes_154 rfl (by decide) rfl ?_
                have key189 :  jG mL_areBoxes E C (jQi E C (1) (jFl [wEye E ad qh S H P v, wA E ba 60 b, wA E na 16 n, wA E ua 36 u, wA E ea 64 e])) 0 0 189 [(0, .ref (ad 7 0)), (1, .ref ba), (2, .ref na), (3, .ref ua), (4, .ref ea), (5, .int (jI (jSum (S 0 5) i))), (6, .int (jI (jSum (sWi (S 0)) i))), (7, .int (jI 1)), (8, .int (jI (i : Int))), (9, .int (jI (jSum (fun q => tW (S 0 6 ((i : Int) * 20 + q))) (j + 1)))), (10, .int (jI (jSum (fun q => sWr (S 0) i (S 0 6 ((i : Int) * 20 + q))) (j + 1)))), (11, .int (jI (lrU (S 0 6) ((i : Int) * 20) j))), (12, .int (jI (gbU (S 0 6) ((i : Int) * 20) j))), (13, .int (jI (j : Int))), (14, .int (jI (pk (S 0 6 ((i : Int) * 20 + (j : Int)))))), (15, .int (jI (sWr (S 0) i (S 0 6 ((i : Int) * 20 + (j : Int))))))] [.int (jI (lrU (S 0 6) ((i : Int) * 20) (j + 1)))] (jFl [wEye E ad qh S H P v, wA E ba 60 b, wA E na 16 n, wA E ua 36 u, wA E ea 64 e]) := by
                  skip
                  refine j_istore 191 [_, _, _, _, _, _, _, _, _, _, _, _, _, _, _, _] dL_areBoxes_189 rfl (by decide) rfl ?_
                  have key211 :  jG mL_areBoxes E C (jQi E C (1) (jFl [wEye E ad qh S H P v, wA E ba 60 b, wA E na 16 n, wA E ua 36 u, wA E ea 64 e])) 0 0 211 [(0, .ref (ad 7 0)), (1, .ref ba), (2, .ref na), (3, .ref ua), (4, .ref ea), (5, .int (jI (jSum (S 0 5) i))), (6, .int (jI (jSum (sWi (S 0)) i))), (7, .int (jI 1)), (8, .int (jI (i : Int))), (9, .int (jI (jSum (fun q => tW (S 0 6 ((i : Int) * 20 + q))) (j + 1)))), (10, .int (jI (jSum (fun q => sWr (S 0) i (S 0 6 ((i : Int) * 20 + q))) (j + 1)))), (11, .int (jI (lrU (S 0 6) ((i : Int) * 20) (j + 1)))), (12, .int (jI (gbU (S 0 6) ((i : Int) * 20) j))), (13, .int (jI (j : Int))), (14, .int (jI (pk (S 0 6 ((i : Int) * 20 + (j : Int)))))), (15, .int (jI (sWr (S 0) i (S 0 6 ((i : Int) * 20 + (j : Int))))))] [.int (jI (gbU (S 0 6) ((i : Int) * 20) (j + 1)))] (jFl [wEye E ad qh S H P v, wA E ba 60 b, wA E na 16 n, wA E ua 36 u, wA E ea 64 e]) := by
                    skip
                    refine j_istore 213 [_, _, _, _, _, _, _, _, _, _, _, _, _, _, _, _] dL_areBoxes_211 rfl (by decide) rfl ?_
                    refine j_iload 8 215 dL_areBoxes_213 rfl rfl ?_
                    refine j_if_eq 292 218 dL_areBoxes_215 rfl (by decide) (by decide) (fun h => absurd h (by decide)) (fun _ => ?_)
                    refine j_aload_n 1 219 dL_areBoxes_218 rfl rfl ?_
                    refine j_iload 9 221 dL_areBoxes_219 rfl rfl ?_
                    refine j_iload 13 223 dL_areBoxes_221 rfl rfl ?_
                    refine j_iconst 224 dL_areBoxes_223 rfl ?_
                    refine j_callViB (wcs := [_]) (cs := [_]) 0 0 [0] 227 [_, _, _, _, _] (c_X7_apple E _ _ _ _ _ _ _ _ _ (by exact hc0) (by omega) (by omega) (by omega)) (jFl_1 _) (jFl_1 _) rfl kL_areBoxes_X7_apple rfl rfl rfl rfl rfl rfl rfl (Nat.le_of_ble_eq_true rfl) (by decide) dL_areBoxes_224 rfl ?_
                    refine j_iload 14 229 dL_areBoxes_227 rfl rfl ?_
                    refine j_sipush 232 dL_areBoxes_229 rfl (by decide) ?_
                    refine j_idiv 233 dL_areBoxes_232 rfl (by omega) (by decide) ?_
                    refine j_eqn 236 dL_areBoxes_233 rfl (by rw [ma0, q1]) ⟨292, by decide⟩ ?_
                    refine j_aload_n 1 237 dL_areBoxes_236 rfl rfl ?_
                    refine j_iload 9 239 dL_areBoxes_237 rfl rfl ?_
                    refine j_iload 13 241 dL_areBoxes_239 rfl rfl ?_
                    refine j_iconst 242 dL_areBoxes_241 rfl ?_
                    refine j_callViB (wcs := [_]) (cs := [_]) 0 0 [0] 245 [_, _, _, _, _] (c_X7_apple E _ _ _ _ _ _ _ _ _ (by exact hc0) (by omega) (by omega) (by omega)) (jFl_1 _) (jFl_1 _) rfl kL_areBoxes_X7_apple rfl rfl rfl rfl rfl rfl rfl (Nat.le_of_ble_eq_true rfl) (by decide) dL_areBoxes_242 rfl ?_
                    refine j_iload 14 247 dL_areBoxes_245 rfl rfl ?_
                    refine j_bipush 249 dL_areBoxes_247 rfl (by decide) ?_
                    refine j_idiv 250 dL_areBoxes_249 rfl (by omega) (by decide) ?_
                    refine j_sipush 253 dL_areBoxes_250 rfl (by decide) ?_
                    refine j_irem 254 dL_areBoxes_253 rfl (by omega) (by decide) ?_
                    refine j_eqn 257 dL_areBoxes_254 rfl (by rw [ma1, q2]) ⟨292, by decide⟩ ?_
                    refine j_aload_n 1 258 dL_areBoxes_257 rfl rfl ?_
                    refine j_iload 9 260 dL_areBoxes_258 rfl rfl ?_
                    refine j_iload 13 262 dL_areBoxes_260 rfl rfl ?_
                    refine j_iconst 263 dL_areBoxes_262 rfl ?_
                    refine j_callViB (wcs := [_]) (cs := [_]) 0 0 [0] 266 [_, _, _, _, _] (c_X7_apple E _ _ _ _ _ _ _ _ _ (by exact hc0) (by omega) (by omega) (by omega)) (jFl_1 _) (jFl_1 _) rfl kL_areBoxes_X7_apple rfl rfl rfl rfl rfl rfl rfl (Nat.le_of_ble_eq_true rfl) (by decide) dL_areBoxes_263 rfl ?_
                    refine j_iload 14 268 dL_areBoxes_266 rfl rfl ?_
                    refine j_bipush 270 dL_areBoxes_268 rfl (by decide) ?_
                    refine j_irem 271 dL_areBoxes_270 rfl (by omega) (by decide) ?_
                    refine j_eqn 274 dL_areBoxes_271 rfl (by rw [ma2, q3]) ⟨292, by decide⟩ ?_
                    refine j_aload_n 1 275 dL_areBoxes_274 rfl rfl ?_
                    refine j_iload 9 277 dL_areBoxes_275 rfl rfl ?_
                    refine j_iload 13 279 dL_areBoxes_277 rfl rfl ?_
                    refine j_iconst 280 dL_areBoxes_279 rfl ?_
                    refine j_callViB (wcs := [_]) (cs := [_]) 0 0 [0] 283 [_, _, _, _, _] (c_X7_apple E _ _ _ _ _ _ _ _ _ (by exact hc0) (by omega) (by omega) (by omega)) (jFl_1 _) (jFl_1 _) rfl kL_areBoxes_X7_apple rfl rfl rfl rfl rfl rfl rfl (Nat.le_of_ble_eq_true rfl) (by decide) dL_areBoxes_280 rfl ?_
                    refine j_iload 15 285 dL_areBoxes_283 rfl rfl ?_
                    refine j_eqn 288 dL_areBoxes_285 rfl (by exact ma3) ⟨292, by decide⟩ ?_
                    refine j_iconst 289 dL_areBoxes_288 rfl ?_
                    refine j_goto 293 dL_areBoxes_289 (by decide) ?_
                    refine j_istore 295 [_, _, _, _, _, _, _, _, _, _, _, _, _, _, _, _] dL_areBoxes_293 rfl (by decide) rfl ?_
                    refine j_iinc 13 298 [_, _, _, _, _, _, _, _, _, _, _, _, _, _, _, _] dL_areBoxes_295 rfl rfl (by decide) rfl ?_
                    refine j_goto 98 dL_areBoxes_298 (by decide) ?_
                    refine j_perm [3, 4, 5, 6, 7, 8, 9, 1, 10, 11, 12, 13, 2, 0] rfl ?_
                    exact ihj (j + 1) (by omega) (by omega)
                  refine j_iload 14 193 dL_areBoxes_191 rfl rfl ?_
                  refine j_bipush 195 dL_areBoxes_193 rfl (by decide) ?_
                  refine j_irem 196 dL_areBoxes_195 rfl (by omega) (by decide) ?_
                  refine j_iload 12 198 dL_areBoxes_196 rfl rfl ?_
                  refine j_icmp_le 209 201 dL_areBoxes_198 rfl (by decide) (by omega) (by omega) (fun h_198 => ?_) (fun h_198 => ?_)
                  · skip
                    refine j_iload 12 211 dL_areBoxes_209 rfl rfl ?_
                    refine j_perm [1, 2, 3, 4, 5, 6, 7, 8, 9, 10, 11, 0, 12, 13, 14, 15] rfl ?_
                    refine j_eqS (S' := [.int (jI (gbU (S 0 6) ((i : Int) * 20) (j + 1)))]) (by rw [e4]; first | (rw [if_pos (by omega), q3]) | (rw [if_neg (by omega)])) ?_
                    exact key211
                  · skip
                    refine j_iload 14 203 dL_areBoxes_201 rfl rfl ?_
                    refine j_bipush 205 dL_areBoxes_203 rfl (by decide) ?_
                    refine j_irem 206 dL_areBoxes_205 rfl (by omega) (by decide) ?_
                    refine j_goto 211 dL_areBoxes_206 (by decide) ?_
                    refine j_perm [1, 2, 3, 4, 5, 6, 7, 8, 9, 10, 11, 0, 12, 13, 14, 15] rfl ?_
                    refine j_eqS (S' := [.int (jI (gbU (S 0 6) ((i : Int) * 20) (j + 1)))]) (by rw [e4]; first | (rw [if_pos (by omega), q3]) | (rw [if_neg (by omega)])) ?_
                    exact key211
                refine j_iload 12 158 dL_areBoxes_156 rfl rfl ?_
                refine j_if_lt 175 161 dL_areBoxes_158 rfl (by decide) (by omega) (fun h_158 => ?_) (fun h_158 => ?_)
                · skip
                  refine j_iload 15 177 dL_areBoxes_175 rfl rfl ?_
                  refine j_bipush 179 dL_areBoxes_177 rfl (by decide) ?_
                  refine j_idiv 180 dL_areBoxes_179 rfl (by omega) (by decide) ?_
                  refine j_sipush 183 dL_areBoxes_180 rfl (by decide) ?_
                  refine j_irem 184 dL_areBoxes_183 rfl (by omega) (by decide) ?_
                  refine j_goto 189 dL_areBoxes_184 (by decide) ?_
                  refine j_perm [3, 4, 5, 6, 7, 8, 9, 10, 11, 1, 0, 12, 13, 14, 15, 2] rfl ?_
                  refine j_eqS (S' := [.int (jI (lrU (S 0 6) ((i : Int) * 20) (j + 1)))]) (by rw [e3]; first | (rw [if_pos (by omega), q2]) | (rw [if_neg (by omega)])) ?_
                  exact key189
                · skip
                  refine j_iload 15 163 dL_areBoxes_161 rfl rfl ?_
                  refine j_bipush 165 dL_areBoxes_163 rfl (by decide) ?_
                  refine j_idiv 166 dL_areBoxes_165 rfl (by omega) (by decide) ?_
                  refine j_sipush 169 dL_areBoxes_166 rfl (by decide) ?_
                  refine j_irem 170 dL_areBoxes_169 rfl (by omega) (by decide) ?_
                  refine j_iload 12 172 dL_areBoxes_170 rfl rfl ?_
                  refine j_icmp_ge 187 175 dL_areBoxes_172 rfl (by decide) (by omega) (by omega) (fun h_172 => ?_) (fun h_172 => ?_)
                  · skip
                    refine j_iload 12 189 dL_areBoxes_187 rfl rfl ?_
                    refine j_perm [3, 4, 5, 6, 7, 8, 9, 10, 11, 1, 0, 12, 13, 14, 15, 2] rfl ?_
                    refine j_eqS (S' := [.int (jI (lrU (S 0 6) ((i : Int) * 20) (j + 1)))]) (by rw [e3]; first | (rw [if_pos (by omega), q2]) | (rw [if_neg (by omega)])) ?_
                    exact key189
                  · skip
                    refine j_iload 15 177 dL_areBoxes_175 rfl rfl ?_
                    refine j_bipush 179 dL_areBoxes_177 rfl (by decide) ?_
                    refine j_idiv 180 dL_areBoxes_179 rfl (by omega) (by decide) ?_
                    refine j_sipush 183 dL_areBoxes_180 rfl (by decide) ?_
                    refine j_irem 184 dL_areBoxes_183 rfl (by omega) (by decide) ?_
                    refine j_goto 189 dL_areBoxes_184 (by decide) ?_
                    refine j_perm [3, 4, 5, 6, 7, 8, 9, 10, 11, 1, 0, 12, 13, 14, 15, 2] rfl ?_
                    refine j_eqS (S' := [.int (jI (lrU (S 0 6) ((i : Int) * 20) (j + 1)))]) (by rw [e3]; first | (rw [if_pos (by omega), q2]) | (rw [if_neg (by omega)])) ?_
                    exact key189
              refine j_aload_n 3 120 dL_areBoxes_119 rfl rfl ?_
              refine j_aload_n 4 121 dL_areBoxes_120 rfl rfl ?_
              refine j_iload 0 123 dL_areBoxes_121 rfl rfl ?_
              refine j_callSiB (wcs := [_, _]) (cs := [_, _]) [2, 3] 126 [_, _, _, _, _] (c_L_lane E _ _ n u (S 0) _ (S 0 6 ((i : Int) * 20 + (j : Int))) (by exact hx) (by exact hr.2.2.1.2.2) (by omega) (by rfl)) rfl rfl rfl kL_areBoxes_L_lane rfl rfl rfl rfl (Nat.le_of_ble_eq_true rfl) (by decide) dL_areBoxes_123 rfl ?_
              refine j_iload 9 128 dL_areBoxes_126 rfl rfl ?_
              refine j_icmp_ne 135 131 dL_areBoxes_128 rfl (by decide) (by omega) (by omega) (fun h_128 => ?_) (fun h_128 => ?_)
              · skip
                have h_128x := h_128
                refine j_iconst 136 dL_areBoxes_135 rfl ?_
                refine j_perm [1, 2, 3, 4, 5, 6, 7, 8, 9, 10, 11, 12, 13, 14, 0] rfl ?_
                refine j_eqS (S' := [.int (jI (sWr (S 0) i (S 0 6 ((i : Int) * 20 + (j : Int)))))]) (by rw [e5]; first | rw [if_pos h_128x] | rw [if_neg h_128x]) ?_
                exact key136
              · skip
                have h_128x := h_128
                refine j_iconst 132 dL_areBoxes_131 rfl ?_
                refine j_goto 136 dL_areBoxes_132 (by decide) ?_
                refine j_perm [1, 2, 3, 4, 5, 6, 7, 8, 9, 10, 11, 12, 13, 14, 0] rfl ?_
                refine j_eqS (S' := [.int (jI (sWr (S 0) i (S 0 6 ((i : Int) * 20 + (j : Int)))))]) (by rw [e5]; first | rw [if_pos h_128x] | rw [if_neg h_128x]) ?_
                exact key136
        refine j_perm [5, 6, 7, 8, 9, 10, 11, 12, 13, 4, 3, 2, 1, 0] rfl ?_
        exact key98 ((S 0 5 i).toNat + 1) 0 (by omega) (by omega)
  refine j_perm [4, 5, 6, 7, 8, 3, 2, 1, 0] rfl ?_
  exact key70 5 0 (by omega) (by omega)
