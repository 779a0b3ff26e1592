def cU (S : Nat → Nat → Int → Int) (k : Nat) (x : Nat → Int → Int) : Nat → Nat → Int → Int := fun i => cond (Nat.beq i k) x (S i)
theorem cU_at (S : Nat → Nat → Int → Int) (k : Nat) (x : Nat → Int → Int) : cU S k x k = x := by
  unfold cU; rw [Nat.beq_refl]; rfl
theorem cU_ne {S : Nat → Nat → Int → Int} {k i : Nat} {x : Nat → Int → Int} (h : i ≠ k) : cU S k x i = S i := by
  unfold cU
  cases hb : Nat.beq i k with
  | true => exact absurd (Nat.eq_of_beq_eq_true hb) h
  | false => rfl
abbrev wHh (E : jE) (h hs : Nat) (qh : Nat → Nat → Nat) (old sz : Int) : va_W := [(h, .inr (3, [.ref hs, .int (jI old), .int (jI sz)])), (hs, .inl (E.2.2.2, 4, .inr (.inr (.inr (.inr (fun t => some (qh t 0)))))))]
abbrev wHist (E : jE) (h hs : Nat) (qh : Nat → Nat → Nat) (hi : Nat → Nat → Int → Int) (old sz : Int) (q : Nat → Nat) (x : Nat → Int → Int) : va_W := jFl [wHh E h hs qh old sz, wState E (qh 0) (hi 0), wState E (qh 1) (hi 1), wState E (qh 2) (hi 2), wState E (qh 3) (hi 3), wState E q x]
def hO (old sz : Int) : Int := if sz = 4 then (old + 1) % 4 else old
def hM (sz : Int) : Int := if sz = 4 then sz - 1 else sz
def hI (old sz : Int) : Nat := ((hO old sz + hM sz) % 4).toNat
def gI (old sz : Int) : Nat := ((old + (sz - 1)) % 4).toNat
theorem hO_rng {old sz : Int} (h : 0 ≤ old ∧ old < 4) : 0 ≤ hO old sz ∧ hO old sz < 4 := by unfold hO; split <;> omega
theorem hM_rng {sz : Int} (h : 0 ≤ sz ∧ sz ≤ 4) : 0 ≤ hM sz ∧ hM sz < 4 := by unfold hM; split <;> omega
set_option maxRecDepth 20000 in
theorem in_X3_keep_X3 : ∀ x ∈ u_ws RX3 TX3 3, x ∈ wsX3_keep := by decide +kernel
theorem kX3_keep_X5_copyFrom : jKv mX3_keep 25 yX5_copyFrom wsX5_copyFrom rmX5_copyFrom 1 := ⟨gX3_keep_X5_copyFrom, ⟨_, _, _, _, rfl, by decide⟩, by decide +kernel, rfl, rfl, by decide⟩
set_option maxRecDepth 100000 in
set_option maxHeartbeats 4000000 in
theorem c_X3_keep (E : jE) (h hs : Nat) (qh : Nat → Nat → Nat) (hi : Nat → Nat → Int → Int) (old sz : Int) (q : Nat → Nat) (x : Nat → Int → Int) (hx : sOK x) (ho : 0 ≤ old ∧ old < 4) (hz : 0 ≤ sz ∧ sz ≤ 4) : jMV E yX3_keep wsX3_keep rmX3_keep [.ref h, .ref (q 0)] (wHist E h hs qh hi old sz q x) (wHist E h hs qh (cU hi (hI old sz) (sCp x (hi (hI old sz)))) (hO old sz) (hM sz + 1) q x) := by
  refine jMV_of (cc := cX3_keep) (maxL := 2) (ret := none) [(0, .ref h), (1, .ref (q 0))] (by decide) rfl rfl (Nat.le_of_ble_eq_true rfl) (fun C => ?_)
  show jG mX3_keep E C (jQv E C (wHist E h hs qh (cU hi (hI old sz) (sCp x (hi (hI old sz)))) (hO old sz) (hM sz + 1) q x)) 0 0 0 [(0, .ref h), (1, .ref (q 0))] [] (wHist E h hs qh hi old sz q x)
  have rO := hO_rng (sz := sz) ho
  have rM := hM_rng hz
  refine j_aload_n 0 1 dX3_keep_0 rfl rfl ?_
  refine j_getB 0 0 2 1 4 in_X3_keep_X3 dX3_keep_1 rfl rfl rfl rfl (by decide) rfl rfl ?_
  refine j_iconst 5 dX3_keep_4 rfl ?_
  refine j_icmp_ne 30 8 dX3_keep_5 rfl (by decide) (by omega) (by omega) (fun h_5 => ?_) (fun h_5 => ?_)
  · skip
    have eO : hO old sz = old := if_neg h_5
    have eM : hM sz = sz := if_neg h_5
    refine j_aload_n 0 31 dX3_keep_30 rfl rfl ?_
    refine j_getB 0 0 0 3 34 in_X3_keep_X3 dX3_keep_31 rfl rfl rfl rfl (by decide) rfl rfl ?_
    refine j_aload_n 0 35 dX3_keep_34 rfl rfl ?_
    refine j_getB 0 0 1 2 38 in_X3_keep_X3 dX3_keep_35 rfl rfl rfl rfl (by decide) rfl rfl ?_
    refine j_aload_n 0 39 dX3_keep_38 rfl rfl ?_
    refine j_getB 0 0 2 1 42 in_X3_keep_X3 dX3_keep_39 rfl rfl rfl rfl (by decide) rfl rfl ?_
    refine j_iadd 43 dX3_keep_42 rfl ?_
    refine j_iconst 44 dX3_keep_43 rfl ?_
    refine j_irem 45 dX3_keep_44 rfl (by omega) (by decide) ?_
    rcases (show (hO old sz + hM sz) % 4 = 0 ∨ (hO old sz + hM sz) % 4 = 1 ∨ (hO old sz + hM sz) % 4 = 2 ∨ (hO old sz + hM sz) % 4 = 3 by omega) with hc | hc | hc | hc
    · skip
      have eI : hI old sz = 0 := by unfold hI; omega
      rw [eI, eO, eM]
      refine j_aaldB 0 1 0 46 dX3_keep_45 rfl rfl rfl (by decide) (by omega) (by decide) ?_
      refine j_aload_n 1 47 dX3_keep_46 rfl rfl ?_
      refine j_callVvB (wcs := [_, _]) (cs := [_, _]) 1 0 [1, 5] 50 [_, _, _, _, _, _] (c_X5_copyFrom E _ _ _ _ (by exact hx)) rfl rfl rfl kX3_keep_X5_copyFrom rfl rfl rfl rfl rfl rfl rfl (Nat.le_of_ble_eq_true rfl) (by decide) dX3_keep_47 rfl ?_
      refine j_aload_n 0 51 dX3_keep_50 rfl rfl ?_
      refine j_dup 52 dX3_keep_51 rfl rfl ?_
      refine j_getB 0 0 2 1 55 in_X3_keep_X3 dX3_keep_52 rfl rfl rfl rfl (by decide) rfl rfl ?_
      refine j_iconst 56 dX3_keep_55 rfl ?_
      refine j_iadd 57 dX3_keep_56 rfl ?_
      refine j_putB 0 0 2 1 60 [(_, .inr (_, [_, _, _])), _] [_, _, _, _, _, _] tyX3 tyX3_ok nmX3 in_X3_keep_X3 dX3_keep_57 rfl rfl rfl rfl (by decide) rfl rfl rfl rfl rfl (Nat.le_of_ble_eq_true rfl) rfl rfl ?_
      exact j_vret dX3_keep_60 rfl (by rfl)
    · skip
      have eI : hI old sz = 1 := by unfold hI; omega
      rw [eI, eO, eM]
      refine j_aaldB 0 1 1 46 dX3_keep_45 rfl rfl rfl (by decide) (by omega) (by decide) ?_
      refine j_aload_n 1 47 dX3_keep_46 rfl rfl ?_
      refine j_callVvB (wcs := [_, _]) (cs := [_, _]) 2 0 [2, 5] 50 [_, _, _, _, _, _] (c_X5_copyFrom E _ _ _ _ (by exact hx)) rfl rfl rfl kX3_keep_X5_copyFrom rfl rfl rfl rfl rfl rfl rfl (Nat.le_of_ble_eq_true rfl) (by decide) dX3_keep_47 rfl ?_
      refine j_aload_n 0 51 dX3_keep_50 rfl rfl ?_
      refine j_dup 52 dX3_keep_51 rfl rfl ?_
      refine j_getB 0 0 2 1 55 in_X3_keep_X3 dX3_keep_52 rfl rfl rfl rfl (by decide) rfl rfl ?_
      refine j_iconst 56 dX3_keep_55 rfl ?_
      refine j_iadd 57 dX3_keep_56 rfl ?_
      refine j_putB 0 0 2 1 60 [(_, .inr (_, [_, _, _])), _] [_, _, _, _, _, _] tyX3 tyX3_ok nmX3 in_X3_keep_X3 dX3_keep_57 rfl rfl rfl rfl (by decide) rfl rfl rfl rfl rfl (Nat.le_of_ble_eq_true rfl) rfl rfl ?_
      exact j_vret dX3_keep_60 rfl (by rfl)
    · skip
      have eI : hI old sz = 2 := by unfold hI; omega
      rw [eI, eO, eM]
      refine j_aaldB 0 1 2 46 dX3_keep_45 rfl rfl rfl (by decide) (by omega) (by decide) ?_
      refine j_aload_n 1 47 dX3_keep_46 rfl rfl ?_
      refine j_callVvB (wcs := [_, _]) (cs := [_, _]) 3 0 [3, 5] 50 [_, _, _, _, _, _] (c_X5_copyFrom E _ _ _ _ (by exact hx)) rfl rfl rfl kX3_keep_X5_copyFrom rfl rfl rfl rfl rfl rfl rfl (Nat.le_of_ble_eq_true rfl) (by decide) dX3_keep_47 rfl ?_
      refine j_aload_n 0 51 dX3_keep_50 rfl rfl ?_
      refine j_dup 52 dX3_keep_51 rfl rfl ?_
      refine j_getB 0 0 2 1 55 in_X3_keep_X3 dX3_keep_52 rfl rfl rfl rfl (by decide) rfl rfl ?_
      refine j_iconst 56 dX3_keep_55 rfl ?_
      refine j_iadd 57 dX3_keep_56 rfl ?_
      refine j_putB 0 0 2 1 60 [(_, .inr (_, [_, _, _])), _] [_, _, _, _, _, _] tyX3 tyX3_ok nmX3 in_X3_keep_X3 dX3_keep_57 rfl rfl rfl rfl (by decide) rfl rfl rfl rfl rfl (Nat.le_of_ble_eq_true rfl) rfl rfl ?_
      exact j_vret dX3_keep_60 rfl (by rfl)
    · skip
      have eI : hI old sz = 3 := by unfold hI; omega
      rw [eI, eO, eM]
      refine j_aaldB 0 1 3 46 dX3_keep_45 rfl rfl rfl (by decide) (by omega) (by decide) ?_
      refine j_aload_n 1 47 dX3_keep_46 rfl rfl ?_
      refine j_callVvB (wcs := [_, _]) (cs := [_, _]) 4 0 [4, 5] 50 [_, _, _, _, _, _] (c_X5_copyFrom E _ _ _ _ (by exact hx)) rfl rfl rfl kX3_keep_X5_copyFrom rfl rfl rfl rfl rfl rfl rfl (Nat.le_of_ble_eq_true rfl) (by decide) dX3_keep_47 rfl ?_
      refine j_aload_n 0 51 dX3_keep_50 rfl rfl ?_
      refine j_dup 52 dX3_keep_51 rfl rfl ?_
      refine j_getB 0 0 2 1 55 in_X3_keep_X3 dX3_keep_52 rfl rfl rfl rfl (by decide) rfl rfl ?_
      refine j_iconst 56 dX3_keep_55 rfl ?_
      refine j_iadd 57 dX3_keep_56 rfl ?_
      refine j_putB 0 0 2 1 60 [(_, .inr (_, [_, _, _])), _] [_, _, _, _, _, _] tyX3 tyX3_ok nmX3 in_X3_keep_X3 dX3_keep_57 rfl rfl rfl rfl (by decide) rfl rfl rfl rfl rfl (Nat.le_of_ble_eq_true rfl) rfl rfl ?_
      exact j_vret dX3_keep_60 rfl (by rfl)
  · skip
    have eO : hO old sz = (old + 1) % 4 := if_pos h_5
    have eM : hM sz = sz - 1 := if_pos h_5
    refine j_aload_n 0 9 dX3_keep_8 rfl rfl ?_
    refine j_aload_n 0 10 dX3_keep_9 rfl rfl ?_
    refine j_getB 0 0 1 2 13 in_X3_keep_X3 dX3_keep_10 rfl rfl rfl rfl (by decide) rfl rfl ?_
    refine j_iconst 14 dX3_keep_13 rfl ?_
    refine j_iadd 15 dX3_keep_14 rfl ?_
    refine j_iconst 16 dX3_keep_15 rfl ?_
    refine j_irem 17 dX3_keep_16 rfl (by omega) (by decide) ?_
    refine j_putB 0 0 1 2 20 [(_, .inr (_, [_, _, _])), _] [_, _, _, _, _, _] tyX3 tyX3_ok nmX3 in_X3_keep_X3 dX3_keep_17 rfl rfl rfl rfl (by decide) rfl rfl rfl rfl rfl (Nat.le_of_ble_eq_true rfl) rfl rfl ?_
    refine j_aload_n 0 21 dX3_keep_20 rfl rfl ?_
    refine j_dup 22 dX3_keep_21 rfl rfl ?_
    refine j_getB 0 0 2 1 25 in_X3_keep_X3 dX3_keep_22 rfl rfl rfl rfl (by decide) rfl rfl ?_
    refine j_iconst 26 dX3_keep_25 rfl ?_
    refine j_isub 27 dX3_keep_26 rfl ?_
    refine j_putB 0 0 2 1 30 [(_, .inr (_, [_, _, _])), _] [_, _, _, _, _, _] tyX3 tyX3_ok nmX3 in_X3_keep_X3 dX3_keep_27 rfl rfl rfl rfl (by decide) rfl rfl rfl rfl rfl (Nat.le_of_ble_eq_true rfl) rfl rfl ?_
    refine j_aload_n 0 31 dX3_keep_30 rfl rfl ?_
    refine j_getB 0 0 0 3 34 in_X3_keep_X3 dX3_keep_31 rfl rfl rfl rfl (by decide) rfl rfl ?_
    refine j_aload_n 0 35 dX3_keep_34 rfl rfl ?_
    refine j_getB 0 0 1 2 38 in_X3_keep_X3 dX3_keep_35 rfl rfl rfl rfl (by decide) rfl rfl ?_
    refine j_aload_n 0 39 dX3_keep_38 rfl rfl ?_
    refine j_getB 0 0 2 1 42 in_X3_keep_X3 dX3_keep_39 rfl rfl rfl rfl (by decide) rfl rfl ?_
    refine j_iadd 43 dX3_keep_42 rfl ?_
    refine j_iconst 44 dX3_keep_43 rfl ?_
    refine j_irem 45 dX3_keep_44 rfl (by omega) (by decide) ?_
    rcases (show (hO old sz + hM sz) % 4 = 0 ∨ (hO old sz + hM sz) % 4 = 1 ∨ (hO old sz + hM sz) % 4 = 2 ∨ (hO old sz + hM sz) % 4 = 3 by omega) with hc | hc | hc | hc
    · skip
      have eI : hI old sz = 0 := by unfold hI; omega
      rw [eI, eO, eM]
      refine j_aaldB 0 1 0 46 dX3_keep_45 rfl rfl rfl (by decide) (by omega) (by decide) ?_
      refine j_aload_n 1 47 dX3_keep_46 rfl rfl ?_
      refine j_callVvB (wcs := [_, _]) (cs := [_, _]) 1 0 [1, 5] 50 [_, _, _, _, _, _] (c_X5_copyFrom E _ _ _ _ (by exact hx)) rfl rfl rfl kX3_keep_X5_copyFrom rfl rfl rfl rfl rfl rfl rfl (Nat.le_of_ble_eq_true rfl) (by decide) dX3_keep_47 rfl ?_
      refine j_aload_n 0 51 dX3_keep_50 rfl rfl ?_
      refine j_dup 52 dX3_keep_51 rfl rfl ?_
      refine j_getB 0 0 2 1 55 in_X3_keep_X3 dX3_keep_52 rfl rfl rfl rfl (by decide) rfl rfl ?_
      refine j_iconst 56 dX3_keep_55 rfl ?_
      refine j_iadd 57 dX3_keep_56 rfl ?_
      refine j_putB 0 0 2 1 60 [(_, .inr (_, [_, _, _])), _] [_, _, _, _, _, _] tyX3 tyX3_ok nmX3 in_X3_keep_X3 dX3_keep_57 rfl rfl rfl rfl (by decide) rfl rfl rfl rfl rfl (Nat.le_of_ble_eq_true rfl) rfl rfl ?_
      exact j_vret dX3_keep_60 rfl (by rfl)
    · skip
      have eI : hI old sz = 1 := by unfold hI; omega
      rw [eI, eO, eM]
      refine j_aaldB 0 1 1 46 dX3_keep_45 rfl rfl rfl (by decide) (by omega) (by decide) ?_
      refine j_aload_n 1 47 dX3_keep_46 rfl rfl ?_
      refine j_callVvB (wcs := [_, _]) (cs := [_, _]) 2 0 [2, 5] 50 [_, _, _, _, _, _] (c_X5_copyFrom E _ _ _ _ (by exact hx)) rfl rfl rfl kX3_keep_X5_copyFrom rfl rfl rfl rfl rfl rfl rfl (Nat.le_of_ble_eq_true rfl) (by decide) dX3_keep_47 rfl ?_
      refine j_aload_n 0 51 dX3_keep_50 rfl rfl ?_
      refine j_dup 52 dX3_keep_51 rfl rfl ?_
      refine j_getB 0 0 2 1 55 in_X3_keep_X3 dX3_keep_52 rfl rfl rfl rfl (by decide) rfl rfl ?_
      refine j_iconst 56 dX3_keep_55 rfl ?_
      refine j_iadd 57 dX3_keep_56 rfl ?_
      refine j_putB 0 0 2 1 60 [(_, .inr (_, [_, _, _])), _] [_, _, _, _, _, _] tyX3 tyX3_ok nmX3 in_X3_keep_X3 dX3_keep_57 rfl rfl rfl rfl (by decide) rfl rfl rfl rfl rfl (Nat.le_of_ble_eq_true rfl) rfl rfl ?_
      exact j_vret dX3_keep_60 rfl (by rfl)
    · skip
      have eI : hI old sz = 2 := by unfold hI; omega
      rw [eI, eO, eM]
      refine j_aaldB 0 1 2 46 dX3_keep_45 rfl rfl rfl (by decide) (by omega) (by decide) ?_
      refine j_aload_n 1 47 dX3_keep_46 rfl rfl ?_
      refine j_callVvB (wcs := [_, _]) (cs := [_, _]) 3 0 [3, 5] 50 [_, _, _, _, _, _] (c_X5_copyFrom E _ _ _ _ (by exact hx)) rfl rfl rfl kX3_keep_X5_copyFrom rfl rfl rfl rfl rfl rfl rfl (Nat.le_of_ble_eq_true rfl) (by decide) dX3_keep_47 rfl ?_
      refine j_aload_n 0 51 dX3_keep_50 rfl rfl ?_
      refine j_dup 52 dX3_keep_51 rfl rfl ?_
      refine j_getB 0 0 2 1 55 in_X3_keep_X3 dX3_keep_52 rfl rfl rfl rfl (by decide) rfl rfl ?_
      refine j_iconst 56 dX3_keep_55 rfl ?_
      refine j_iadd 57 dX3_keep_56 rfl ?_
      refine j_putB 0 0 2 1 60 [(_, .inr (_, [_, _, _])), _] [_, _, _, _, _, _] tyX3 tyX3_ok nmX3 in_X3_keep_X3 dX3_keep_57 rfl rfl rfl rfl (by decide) rfl rfl rfl rfl rfl (Nat.le_of_ble_eq_true rfl) rfl rfl ?_
      exact j_vret dX3_keep_60 rfl (by rfl)
    · skip
      have eI : hI old sz = 3 := by unfold hI; omega
      rw [eI, eO, eM]
      refine j_aaldB 0 1 3 46 dX3_keep_45 rfl rfl rfl (by decide) (by omega) (by decide) ?_
      refine j_aload_n 1 47 dX3_keep_46 rfl rfl ?_
      refine j_callVvB (wcs := [_, _]) (cs := [_, _]) 4 0 [4, 5] 50 [_, _, _, _, _, _] (c_X5_copyFrom E _ _ _ _ (by exact hx)) rfl rfl rfl kX3_keep_X5_copyFrom rfl rfl rfl rfl rfl rfl rfl (Nat.le_of_ble_eq_true rfl) (by decide) dX3_keep_47 rfl ?_
      refine j_aload_n 0 51 dX3_keep_50 rfl rfl ?_
      refine j_dup 52 dX3_keep_51 rfl rfl ?_
      refine j_getB 0 0 2 1 55 in_X3_keep_X3 dX3_keep_52 rfl rfl rfl rfl (by decide) rfl rfl ?_
      refine j_iconst 56 dX3_keep_55 rfl ?_
      refine j_iadd 57 dX3_keep_56 rfl ?_
      refine j_putB 0 0 2 1 60 [(_, .inr (_, [_, _, _])), _] [_, _, _, _, _, _] tyX3 tyX3_ok nmX3 in_X3_keep_X3 dX3_keep_57 rfl rfl rfl rfl (by decide) rfl rfl rfl rfl rfl (Nat.le_of_ble_eq_true rfl) rfl rfl ?_
      exact j_vret dX3_keep_60 rfl (by rfl)
