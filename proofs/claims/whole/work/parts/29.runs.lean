/-! the reference: rules and run -/
theorem sRun1_5 (x : Nat → Int → Int) (y z : Int → Int) (n : Nat) : sRun1 x y z n = if z n = 0 then x else sLay x (y n) := rfl
theorem Rel_lay {x : Nat → Int → Int} {f : Int → Int} {t : Int} (hx : sOK x) (h : Rel x f) (h2 : x 2 0 < 2) : Rel (sLay x t) (fLays f t) := by
  have r2 : ∀ i, 0 ≤ x 2 i ∧ x 2 i ≤ 2 := hx 2
  have r20 := r2 0
  have c0 := Rel_cup0 h
  have ef : ∀ k, k ≠ 38 + f 37 → k ≠ 37 → k ≠ 171 → fLays f t k = f k := fun k h1 h2 h3 => by unfold fLays; rw [jU_ne h3, jU_ne h2, jU_ne h1]
  have e37 : fLays f t 37 = f 37 + 1 := by unfold fLays; rw [jU_ne (by omega), jU_at]
  have e171 : fLays f t 171 = f 171 + 1 := by unfold fLays; rw [jU_at]
  have eA : fLays f t (38 + f 37) = t := by unfold fLays; rw [jU_ne (by omega), jU_ne (by omega), jU_at]
  obtain ⟨a, b, c⟩ := Rel_low (x' := sLay x t) (f' := fLays f t) hx h rfl rfl rfl rfl rfl (fun k _ _ => ef k (by omega) (by omega) (by omega))
  refine ⟨a, b, c, ?_, rBox_kept hx h.2.2.2.2.1 rfl rfl (fun k h1 h2 => ef k (by omega) (by omega) (by omega)), ?_⟩
  · intro p h0 h1
    have r2p := r2 p
    obtain ⟨u, v, w⟩ := h.2.2.2.1 p h0 h1
    have e2 : sLay x t 2 = jU (x 2) 0 (x 2 0 + 1) := rfl
    have e3 : sLay x t 3 = x 3 := rfl
    have e4 : sLay x t 4 = jU (x 4) (x 2 0) t := rfl
    rw [e2, e3, e4]
    by_cases hp : p = 0
    · subst hp
      rw [jU_at]
      refine ⟨?_, ?_, fun j j0 j1 => ?_⟩
      · rw [show (37 + 4 * 0 : Int) = 37 from rfl, e37, c0.1]
      · rw [ef _ (by omega) (by omega) (by omega)]; exact v
      · by_cases q : j = x 2 0
        · subst q
          rw [show (2 * 0 + x 2 0 : Int) = x 2 0 by omega, jU_at, show (37 + 4 * 0 + 1 + x 2 0 : Int) = 38 + f 37 by omega, eA]
        · rw [jU_ne (by omega), ef _ (by omega) (by omega) (by omega)]
          exact w j j0 (by omega)
    · rw [jU_ne hp]
      refine ⟨?_, ?_, fun j j0 j1 => ?_⟩
      · rw [ef _ (by omega) (by omega) (by omega)]; exact u
      · rw [ef _ (by omega) (by omega) (by omega)]; exact v
      · rw [jU_ne (by omega), ef _ (by omega) (by omega) (by omega)]
        exact w j j0 j1
  · obtain ⟨c1, c2, c3, c4, c5, c6⟩ := h.2.2.2.2.2
    have e9 : sLay x t 9 = jU (x 9) 2 (x 9 2 + 1) := rfl
    unfold rCnt
    rw [e9, jU_ne (by omega), jU_at, jU_ne (by omega), jU_ne (by omega), jU_ne (by omega), jU_ne (by omega), e171, ef _ (by omega) (by omega) (by omega), ef _ (by omega) (by omega) (by omega), ef _ (by omega) (by omega) (by omega), ef _ (by omega) (by omega) (by omega), ef _ (by omega) (by omega) (by omega), c2]
    exact ⟨c1, rfl, c3, c4, c5, c6⟩
def fRun1 (f : Int → Int) (y z : Int → Int) (n : Nat) : Int → Int := if z n = 0 then f else fLays f (y n)
def fRun (x : Nat → Int → Int) (f y z : Int → Int) (m : Int) : Nat → Int → Int
  | 0 => f
  | n + 1 => if (n : Int) + 1 < m ∧ z ((n : Int) + 1) = 2 then fRun1 (fRun x f y z m n) y z n else fTick (sRun1 (sRun x y z m n).1 y z n) (fRun1 (fRun x f y z m n) y z n)
theorem sRun1_rel {x : Nat → Int → Int} {f y z : Int → Int} {m N : Int} (h : sInv x N) (hN : N + m ≤ 512) (h0 : x 2 0 = 0) (ok : rAok m y z) (n : Nat) (hn : (n : Int) < m) (hr : Rel (sRun x y z m n).1 f) : Rel (sRun1 (sRun x y z m n).1 y z n) (fRun1 f y z n) ∧ sInv (sRun1 (sRun x y z m n).1 y z n) 512 ∧ (sRun x y z m n).1 2 0 < 2 := by
  obtain ⟨i1, i2⟩ := sRun_inv h hN h0 ok n (by omega)
  have o := ok n (by omega) (by omega)
  have hlt : (sRun x y z m n).1 2 0 < 2 := by rw [i2]; split <;> omega
  refine ⟨?_, ?_, hlt⟩
  · unfold sRun1 fRun1
    by_cases c : z n = 0
    · rw [if_pos c, if_pos c]; exact hr
    · rw [if_neg c, if_neg c]; exact Rel_lay i1.1 hr hlt
  · unfold sRun1
    by_cases c : z n = 0
    · rw [if_pos c]
      exact ⟨i1.1, i1.2.1, by have := i1.2.2; omega⟩
    · rw [if_neg c]
      have k := sInv_lay (t := y n) i1 hlt (o.2.1 c)
      exact ⟨k.1, k.2.1, by have := k.2.2; omega⟩
theorem Rel_run {x : Nat → Int → Int} {f y z : Int → Int} {m N : Int} (h : sInv x N) (hN : N + m ≤ 512) (h0 : x 2 0 = 0) (ok : rAok m y z) (hr : Rel x f) : ∀ n : Nat, (n : Int) ≤ m → Rel (sRun x y z m n).1 (fRun x f y z m n) := by
  intro n
  induction n with
  | zero => intro _; exact hr
  | succ n ih =>
    intro hn
    obtain ⟨k1, k2, -⟩ := sRun1_rel h hN h0 ok n (by omega) (ih (by omega))
    unfold sRun fRun
    by_cases c : (n : Int) + 1 < m ∧ z ((n : Int) + 1) = 2
    · rw [if_pos c, if_pos c]; exact k1
    · rw [if_neg c, if_neg c]; exact Rel_tick k2 (by omega) k1
def fRc (f r : Int → Int) (c : Int) : Int → Int := fun i => if 5 ≤ i ∧ i < 5 + c then r (5 * ((i - 5) / 4) + 1 + (i - 5) % 4) else f i
theorem fRc_0 (f r : Int → Int) : fRc f r 0 = f := by
  funext i
  unfold fRc
  rw [if_neg (by omega)]
theorem fRc_step {f r : Int → Int} {i j : Int} (hi : 0 ≤ i) (hj : 0 ≤ j ∧ j < 4) : jU (fRc f r (4 * i + j)) (5 + 4 * i + j) (r (5 * i + 1 + j)) = fRc f r (4 * i + (j + 1)) := by
  funext k
  unfold jU fRc
  by_cases h : k = 5 + 4 * i + j
  · rw [if_pos h, if_pos (by omega)]
    congr 1
    omega
  · rw [if_neg h]
    by_cases h2 : 5 ≤ k ∧ k < 5 + (4 * i + j)
    · rw [if_pos h2, if_pos (by omega)]
    · rw [if_neg h2, if_neg (by omega)]
abbrev tFX : Type := Int × Int × Int × (Int → Int)
def fT1 (F : Nat → Int → Int) (T : tFX) : Nat → Int → Int := jS (jS F 5 T.2.2.2) 6 (jU (jU (F 6) 3 T.2.1) 4 T.2.2.1)
def fEnd (F : Nat → Int → Int) (T : tFX) (g : Int → Int) : Nat → Int → Int := jS (jS (fCh (fT1 F T)) 0 g) 6 (jU (fCh (fT1 F T) 6) 2 0)
def rRulesM (F : Nat → Int → Int) (T : tFX) : Int × (Nat → Int → Int) := if T.1 = 0 then (-2, fT1 F T) else if 8 < T.2.2.1 then (-3, fT1 F T) else (T.2.2.1, fEnd F T (jU (fRc (F 0) T.2.2.2 (4 * T.2.2.1)) 4 T.2.2.1))
def rRunM (x : Nat → Int → Int) (y z : Int → Int) (F : Nat → Int → Int) (T : tFX) : Int × (Nat → Int → Int) := if T.1 = 0 then (-2, fT1 F T) else if 0 < x 2 0 then (-3, fT1 F T) else ((sRun x y z T.2.2.1 T.2.2.1.toNat).2, fEnd F T (fRun x (F 0) y z T.2.2.1 T.2.2.1.toNat))
theorem kX8_rules_X8_fault : jKv mX8_rules 135 yX8_fault wsX8_fault rmX8_fault 1 := ⟨gX8_rules_X8_fault, ⟨_, _, _, _, rfl, by decide⟩, by decide +kernel, rfl, rfl, by decide⟩
set_option maxRecDepth 20000 in
theorem in_X8_rules_X8 : ∀ x ∈ u_ws RX8 TX8 11, x ∈ wsX8_rules := by decide +kernel
theorem kX8_rules_X8_changes : jKv mX8_rules 89 yX8_changes wsX8_changes rmX8_changes 0 := ⟨gX8_rules_X8_changes, ⟨_, _, _, _, rfl, by decide⟩, by decide +kernel, rfl, rfl, by decide⟩
theorem kX8_rules_X8_ruleAt : jKs mX8_rules 50 yX8_ruleAt wsX8_ruleAt rmX8_ruleAt 1 := ⟨gX8_rules_X8_ruleAt, ⟨_, _, _, _, rfl, by decide⟩, by decide +kernel, rfl, rfl, by decide⟩
set_option maxRecDepth 100000 in
set_option maxHeartbeats 4000000 in
theorem c_X8_rules (E : jE) (q : Nat → Nat) (F : Nat → Int → Int) (T : tFX) (hn : 0 ≤ F 6 1 ∧ F 6 1 ≤ 4) (h2 : 0 ≤ F 6 2 ∧ F 6 2 ≤ 60) (h4 : ∀ i, 0 ≤ F 4 i ∧ F 4 i < 1000) (hT : T = fX 1 (F 4) (F 6 2) 60 0 0 0 (F 5)) (hk : T.2.2.1 ≤ 100) : jMI E yX8_rules wsX8_rules rmX8_rules [.ref (q 0)] (wModel E q F) ((rRulesM F T).1) (wModel E q (rRulesM F T).2) := by
  refine jMI_of (cc := cX8_rules) (maxL := 3) (ret := (some .int)) [(0, .ref (q 0))] (by decide) rfl rfl (Nat.le_of_ble_eq_true rfl) (fun C => ?_)
  show jG mX8_rules E C (jQi E C ((rRulesM F T).1) (wModel E q (rRulesM F T).2)) 0 0 0 [(0, .ref (q 0))] [] (wModel E q F)
  have tr := fX_rng 1 (F 4) (F 6 2) 60 0 0 0 (F 5) (by omega) (by omega) (by omega)
  rw [← hT] at tr
  have tv : (T.1 = 0 ∧ (if T.1 = 0 then T.2.1 else -4) = T.2.1) ∨ (T.1 = 1 ∧ (if T.1 = 0 then T.2.1 else -4) = -4) := by split <;> omega
  have t200 : T.2.1 ≤ 60 := by omega
  refine j_aload_n 0 1 dX8_rules_0 rfl rfl ?_
  refine j_iconst 2 dX8_rules_1 rfl ?_
  refine j_callVi 0 [0, 5, 6] 5 [_, _, _, _, _, _, _] (c_X8_fault E _ _ _ _ _ _ _ _ _ (F 6 2) _ _ (F 4) (F 5) 1 (by exact h2) (by exact h4) (by omega)) rfl kX8_rules_X8_fault rfl rfl rfl rfl rfl rfl rfl (Nat.le_of_ble_eq_true rfl) (by decide) dX8_rules_2 rfl ?_
  have ef : fltM 1 (F 4) (F 6 2) (F 6 3) (F 6 4) (F 5) = (if T.1 = 0 then T.2.1 else -4, T.2) := by rw [hT]; exact if_neg (by omega)
  rw [ef]
  change jG _ E C _ 0 0 5 _ (.int (jI (if T.1 = 0 then T.2.1 else -4)) :: _) (wModel E q (fT1 F T))
  refine j_bipush 7 dX8_rules_5 rfl (by decide) ?_
  refine j_icmp_eq 13 10 dX8_rules_7 rfl (by decide) (by omega) (by omega) (fun h_7 => ?_) (fun h_7 => ?_)
  · skip
    refine j_aload_n 0 14 dX8_rules_13 rfl rfl ?_
    refine j_get 0 9 1 17 in_X8_rules_X8 dX8_rules_14 rfl rfl rfl (by decide) rfl rfl ?_
    change jG _ E C _ 0 0 17 _ (.int (jI T.2.2.1) :: _) _
    refine j_bipush 19 dX8_rules_17 rfl (by decide) ?_
    refine j_icmp_le 25 22 dX8_rules_19 rfl (by decide) (by omega) (by omega) (fun h_19 => ?_) (fun h_19 => ?_)
    · skip
      have e : rRulesM F T = (T.2.2.1, fEnd F T (jU (fRc (F 0) T.2.2.2 (4 * T.2.2.1)) 4 T.2.2.1)) := by unfold rRulesM; rw [if_neg (by omega), if_neg (by omega)]
      rw [e]
      refine j_aload_n 0 26 dX8_rules_25 rfl rfl ?_
      refine j_callVv 0 [0, 1, 2, 3, 4, 5, 6] 29 [_, _, _, _, _, _, _] (c_X8_changes E _ (fT1 F T) (by show 0 ≤ F 6 1 ∧ F 6 1 ≤ 4; omega)) rfl kX8_rules_X8_changes rfl rfl rfl rfl rfl rfl rfl (Nat.le_of_ble_eq_true rfl) (by decide) dX8_rules_26 rfl ?_
      refine j_iconst 30 dX8_rules_29 rfl ?_
      refine j_istore_n 31 [_, _] dX8_rules_30 rfl (by decide) rfl ?_
      have key31 : ∀ (fu i : Nat), T.2.2.1.toNat < i + fu → (i : Int) ≤ T.2.2.1 → jG mX8_rules E C (jQi E C (((T.2.2.1, fEnd F T (jU (fRc (F 0) T.2.2.2 (4 * T.2.2.1)) 4 T.2.2.1)) : Int × (Nat → Int → Int)).1) (wModel E q ((T.2.2.1, fEnd F T (jU (fRc (F 0) T.2.2.2 (4 * T.2.2.1)) 4 T.2.2.1)) : Int × (Nat → Int → Int)).2)) 0 0 31 [(0, .ref (q 0)), (1, .int (jI (i : Int)))] [] (wModel E q (jS (fCh (fT1 F T)) 0 (fRc (F 0) T.2.2.2 (4 * (i : Int))))) := by
        intro fu
        induction fu with
        | zero => intro i h1 h2; exact absurd h1 (by omega)
        | succ fu ih =>
          intro i h1 h2
          refine j_iload_n 1 32 dX8_rules_31 rfl rfl ?_
          refine j_aload_n 0 33 dX8_rules_32 rfl rfl ?_
          refine j_get 0 9 1 36 in_X8_rules_X8 dX8_rules_33 rfl rfl rfl (by decide) rfl rfl ?_
          change jG _ E C _ 0 0 36 _ (.int (jI T.2.2.1) :: _) _
          refine j_icmp_ge 81 39 dX8_rules_36 rfl (by decide) (by omega) (by omega) (fun h_36 => ?_) (fun h_36 => ?_)
          · skip
            obtain rfl : i = T.2.2.1.toNat := by omega
            refine j_aload_n 0 82 dX8_rules_81 rfl rfl ?_
            refine j_get 0 0 2 85 in_X8_rules_X8 dX8_rules_82 rfl rfl rfl (by decide) rfl rfl ?_
            refine j_iconst 86 dX8_rules_85 rfl ?_
            refine j_aload_n 0 87 dX8_rules_86 rfl rfl ?_
            refine j_get 0 9 1 90 in_X8_rules_X8 dX8_rules_87 rfl rfl rfl (by decide) rfl rfl ?_
            have eK : ((T.2.2.1.toNat : Nat) : Int) = T.2.2.1 := by omega
            rw [eK]
            change jG _ E C _ 0 0 90 _ (.int (jI T.2.2.1) :: _) _
            refine j_iast 1 91 [_, _, _, _, _, _, _] dX8_rules_90 rfl rfl (by decide) (by omega) rfl ?_
            refine j_aload_n 0 92 dX8_rules_91 rfl rfl ?_
            refine j_iconst 93 dX8_rules_92 rfl ?_
            refine j_put 0 7 4 96 [(_, .inr (_, [_, _, _, _, _, _, _, _, _, _, _])), _, _, _, _, _, _] tyX8 tyX8_ok nmX8 in_X8_rules_X8 dX8_rules_93 rfl rfl rfl (by decide) rfl rfl rfl rfl rfl (Nat.le_of_ble_eq_true rfl) rfl ?_
            refine j_aload_n 0 97 dX8_rules_96 rfl rfl ?_
            refine j_get 0 9 1 100 in_X8_rules_X8 dX8_rules_97 rfl rfl rfl (by decide) rfl rfl ?_
            change jG _ E C _ 0 0 100 _ (.int (jI T.2.2.1) :: _) _
            exact j_iret dX8_rules_100 rfl (by first | rfl | (exfalso; omega)) (by rfl)
          · skip
            refine j_iconst 40 dX8_rules_39 rfl ?_
            refine j_istore_n 41 [_, _, _] dX8_rules_40 rfl (by decide) rfl ?_
            have key41 : ∀ (fu2 j : Nat), 4 < j + fu2 → (j : Int) ≤ 4 → jG mX8_rules E C (jQi E C (((T.2.2.1, fEnd F T (jU (fRc (F 0) T.2.2.2 (4 * T.2.2.1)) 4 T.2.2.1)) : Int × (Nat → Int → Int)).1) (wModel E q ((T.2.2.1, fEnd F T (jU (fRc (F 0) T.2.2.2 (4 * T.2.2.1)) 4 T.2.2.1)) : Int × (Nat → Int → Int)).2)) 0 0 41 [(0, .ref (q 0)), (1, .int (jI (i : Int))), (2, .int (jI (j : Int)))] [] (wModel E q (jS (fCh (fT1 F T)) 0 (fRc (F 0) T.2.2.2 (4 * (i : Int) + (j : Int))))) := by
              intro fu2
              induction fu2 with
              | zero => intro j g1 g2; exact absurd g1 (by omega)
              | succ fu2 ih2 =>
                intro j g1 g2
                refine j_iload_n 2 42 dX8_rules_41 rfl rfl ?_
                refine j_iconst 43 dX8_rules_42 rfl ?_
                refine j_icmp_ge 75 46 dX8_rules_43 rfl (by decide) (by omega) (by omega) (fun h_43 => ?_) (fun h_43 => ?_)
                · skip
                  obtain rfl : j = 4 := by omega
                  refine j_iinc 1 78 [_, _, _] dX8_rules_75 rfl rfl (by decide) rfl ?_
                  refine j_goto 31 dX8_rules_78 (by decide) ?_
                  refine j_perm [1, 0] rfl ?_
                  refine j_eqw (w' := wModel E q (jS (fCh (fT1 F T)) 0 (fRc (F 0) T.2.2.2 (4 * ((i + 1 : Nat) : Int))))) (congrArg (fun g => wModel E q (jS (fCh (fT1 F T)) 0 g)) (congrArg (fRc (F 0) T.2.2.2) (by omega))) ?_
                  exact ih (i + 1) (by omega) (by omega)
                · skip
                  refine j_aload_n 0 47 dX8_rules_46 rfl rfl ?_
                  refine j_get 0 0 2 50 in_X8_rules_X8 dX8_rules_47 rfl rfl rfl (by decide) rfl rfl ?_
                  refine j_iload_n 1 51 dX8_rules_50 rfl rfl ?_
                  refine j_callSi [] 54 [_, _, _, _, _, _, _] (c_X8_ruleAt E _ ) rfl kX8_rules_X8_ruleAt rfl rfl rfl rfl rfl (Nat.le_of_ble_eq_true rfl) (by decide) dX8_rules_51 rfl ?_
                  refine j_iload_n 2 55 dX8_rules_54 rfl rfl ?_
                  refine j_iadd 56 dX8_rules_55 rfl ?_
                  refine j_aload_n 0 57 dX8_rules_56 rfl rfl ?_
                  refine j_get 0 10 3 60 in_X8_rules_X8 dX8_rules_57 rfl rfl rfl (by decide) rfl rfl ?_
                  refine j_iconst 61 dX8_rules_60 rfl ?_
                  refine j_iload_n 1 62 dX8_rules_61 rfl rfl ?_
                  refine j_imul 63 dX8_rules_62 rfl ?_
                  refine j_iconst 64 dX8_rules_63 rfl ?_
                  refine j_iadd 65 dX8_rules_64 rfl ?_
                  refine j_iload_n 2 66 dX8_rules_65 rfl rfl ?_
                  refine j_iadd 67 dX8_rules_66 rfl ?_
                  refine j_iald 6 68 dX8_rules_67 rfl rfl (by decide) (by omega) ?_
                  change jG _ E C _ 0 0 68 _ (.int (jI (T.2.2.2 (5 * (i : Int) + 1 + j))) :: _) _
                  refine j_iast 1 69 [_, _, _, _, _, _, _] dX8_rules_68 rfl rfl (by decide) (by omega) rfl ?_
                  refine j_iinc 2 72 [_, _, _] dX8_rules_69 rfl rfl (by decide) rfl ?_
                  refine j_goto 41 dX8_rules_72 (by decide) ?_
                  refine j_perm [1, 2, 0] rfl ?_
                  refine j_eqw (w' := wModel E q (jS (fCh (fT1 F T)) 0 (fRc (F 0) T.2.2.2 (4 * (i : Int) + ((j + 1 : Nat) : Int))))) (congrArg (fun g => wModel E q (jS (fCh (fT1 F T)) 0 g)) (fRc_step (f := F 0) (r := T.2.2.2) (i := (i : Int)) (j := (j : Int)) (by omega) (by omega))) ?_
                  exact ih2 (j + 1) (by omega) (by omega)
            refine j_perm [1, 2, 0] rfl ?_
            refine j_eqw (w' := wModel E q (jS (fCh (fT1 F T)) 0 (fRc (F 0) T.2.2.2 (4 * (i : Int) + ((0 : Nat) : Int))))) (congrArg (fun g => wModel E q (jS (fCh (fT1 F T)) 0 g)) (congrArg (fRc (F 0) T.2.2.2) (by omega))) ?_
            exact key41 5 0 (by omega) (by omega)
      refine j_perm [1, 0] rfl ?_
      refine j_eqw (w' := wModel E q (jS (fCh (fT1 F T)) 0 (fRc (F 0) T.2.2.2 (4 * ((0 : Nat) : Int))))) (congrArg (fun g => wModel E q (jS (fCh (fT1 F T)) 0 g)) (show fCh (fT1 F T) 0 = fRc (F 0) T.2.2.2 (4 * ((0 : Nat) : Int)) from by rw [show (4 * ((0 : Nat) : Int)) = 0 from rfl, fRc_0]; rfl)) ?_
      exact key31 (T.2.2.1.toNat + 1) 0 (by omega) (by omega)
    · skip
      have e : rRulesM F T = (-3, fT1 F T) := by unfold rRulesM; rw [if_neg (by omega), if_pos (by omega)]
      rw [e]
      refine j_bipush 24 dX8_rules_22 rfl (by decide) ?_
      exact j_iret dX8_rules_24 rfl (by first | rfl | (exfalso; omega)) (by rfl)
  · skip
    have e : rRulesM F T = (-2, fT1 F T) := if_pos (by omega)
    rw [e]
    refine j_bipush 12 dX8_rules_10 rfl (by decide) ?_
    exact j_iret dX8_rules_12 rfl (by first | rfl | (exfalso; omega)) (by rfl)
theorem kX8_run_X8_fault : jKv mX8_run 135 yX8_fault wsX8_fault rmX8_fault 1 := ⟨gX8_run_X8_fault, ⟨_, _, _, _, rfl, by decide⟩, by decide +kernel, rfl, rfl, by decide⟩
set_option maxRecDepth 20000 in
theorem in_X8_run_X8 : ∀ x ∈ u_ws RX8 TX8 11, x ∈ wsX8_run := by decide +kernel
theorem kX8_run_X8_changes : jKv mX8_run 89 yX8_changes wsX8_changes rmX8_changes 0 := ⟨gX8_run_X8_changes, ⟨_, _, _, _, rfl, by decide⟩, by decide +kernel, rfl, rfl, by decide⟩
theorem kX8_run_X8_tick : jKv mX8_run 96 yX8_tick wsX8_tick rmX8_tick 0 := ⟨gX8_run_X8_tick, ⟨_, _, _, _, rfl, by decide⟩, by decide +kernel, rfl, rfl, by decide⟩
theorem kX8_run_X8_packed : jKs mX8_run 46 yX8_packed wsX8_packed rmX8_packed 3 := ⟨gX8_run_X8_packed, ⟨_, _, _, _, rfl, by decide⟩, by decide +kernel, rfl, rfl, by decide⟩
theorem kX8_run_X8_lays : jKv mX8_run 92 yX8_lays wsX8_lays rmX8_lays 1 := ⟨gX8_run_X8_lays, ⟨_, _, _, _, rfl, by decide⟩, by decide +kernel, rfl, rfl, by decide⟩
set_option maxRecDepth 100000 in
set_option maxHeartbeats 4000000 in
theorem c_X8_run (E : jE) (q : Nat → Nat) (F : Nat → Int → Int) (T : tFX) (x : Nat → Int → Int) (y z : Int → Int) (N : Int) (hn : 0 ≤ F 6 1 ∧ F 6 1 ≤ 4) (h2 : 0 ≤ F 6 2 ∧ F 6 2 ≤ 60) (h4 : ∀ i, 0 ≤ F 4 i ∧ F 4 i < 1000) (hT : T = fX 0 (F 4) (F 6 2) 60 0 0 0 (F 5)) (hi : sInv x N) (hN : N + T.2.2.1 ≤ 512) (hr : Rel x (F 0)) (ok : T.1 = 1 → rAok T.2.2.1 y z) (pr : T.1 = 1 → PRA T.2.2.1 y z T.2.2.2) (hk : T.1 = 1 → T.2.2.1 ≤ 30) : jMI E yX8_run wsX8_run rmX8_run [.ref (q 0)] (wModel E q F) ((rRunM x y z F T).1) (wModel E q (rRunM x y z F T).2) := by
  refine jMI_of (cc := cX8_run) (maxL := 4) (ret := (some .int)) [(0, .ref (q 0))] (by decide) rfl rfl (Nat.le_of_ble_eq_true rfl) (fun C => ?_)
  show jG mX8_run E C (jQi E C ((rRunM x y z F T).1) (wModel E q (rRunM x y z F T).2)) 0 0 0 [(0, .ref (q 0))] [] (wModel E q F)
  have tr := fX_rng 0 (F 4) (F 6 2) 60 0 0 0 (F 5) (by omega) (by omega) (by omega)
  rw [← hT] at tr
  have tv : (T.1 = 0 ∧ (if T.1 = 0 then T.2.1 else -4) = T.2.1) ∨ (T.1 = 1 ∧ (if T.1 = 0 then T.2.1 else -4) = -4) := by split <;> omega
  have t200 : T.2.1 ≤ 60 := by omega
  have c0 := Rel_cup0 hr
  have r20x : 0 ≤ x 2 0 ∧ x 2 0 ≤ 2 := hi.1 2 0
  refine j_aload_n 0 1 dX8_run_0 rfl rfl ?_
  refine j_iconst 2 dX8_run_1 rfl ?_
  refine j_callVi 0 [0, 5, 6] 5 [_, _, _, _, _, _, _] (c_X8_fault E _ _ _ _ _ _ _ _ _ (F 6 2) _ _ (F 4) (F 5) 0 (by exact h2) (by exact h4) (by omega)) rfl kX8_run_X8_fault rfl rfl rfl rfl rfl rfl rfl (Nat.le_of_ble_eq_true rfl) (by decide) dX8_run_2 rfl ?_
  have ef : fltM 0 (F 4) (F 6 2) (F 6 3) (F 6 4) (F 5) = (if T.1 = 0 then T.2.1 else -4, T.2) := by rw [hT]; exact if_neg (by omega)
  rw [ef]
  change jG _ E C _ 0 0 5 _ (.int (jI (if T.1 = 0 then T.2.1 else -4)) :: _) (wModel E q (fT1 F T))
  refine j_bipush 7 dX8_run_5 rfl (by decide) ?_
  refine j_icmp_eq 13 10 dX8_run_7 rfl (by decide) (by omega) (by omega) (fun h_7 => ?_) (fun h_7 => ?_)
  · skip
    refine j_aload_n 0 14 dX8_run_13 rfl rfl ?_
    refine j_get 0 0 1 17 in_X8_run_X8 dX8_run_14 rfl rfl rfl (by decide) rfl rfl ?_
    refine j_bipush 19 dX8_run_17 rfl (by decide) ?_
    refine j_iald 1 20 dX8_run_19 rfl rfl (by decide) (by omega) ?_
    change jG _ E C _ 0 0 20 _ (.int (jI (F 0 37)) :: _) _
    refine j_if_le 26 23 dX8_run_20 rfl (by decide) (by omega) (fun h_20 => ?_) (fun h_20 => ?_)
    · skip
      have e : rRunM x y z F T = ((sRun x y z T.2.2.1 T.2.2.1.toNat).2, fEnd F T (fRun x (F 0) y z T.2.2.1 T.2.2.1.toNat)) := by unfold rRunM; rw [if_neg (by omega), if_neg (by omega)]
      rw [e]
      have h0 : x 2 0 = 0 := by omega
      have ok1 := ok (by omega)
      have pr1 := pr (by omega)
      have hk1 := hk (by omega)
      refine j_aload_n 0 27 dX8_run_26 rfl rfl ?_
      refine j_callVv 0 [0, 1, 2, 3, 4, 5, 6] 30 [_, _, _, _, _, _, _] (c_X8_changes E _ (fT1 F T) (by show 0 ≤ F 6 1 ∧ F 6 1 ≤ 4; omega)) rfl kX8_run_X8_changes rfl rfl rfl rfl rfl rfl rfl (Nat.le_of_ble_eq_true rfl) (by decide) dX8_run_27 rfl ?_
      refine j_aload_n 0 31 dX8_run_30 rfl rfl ?_
      refine j_iconst 32 dX8_run_31 rfl ?_
      refine j_put 0 7 2 35 [(_, .inr (_, [_, _, _, _, _, _, _, _, _, _, _])), _, _, _, _, _, _] tyX8 tyX8_ok nmX8 in_X8_run_X8 dX8_run_32 rfl rfl rfl (by decide) rfl rfl rfl rfl rfl (Nat.le_of_ble_eq_true rfl) rfl ?_
      refine j_iconst 36 dX8_run_35 rfl ?_
      refine j_istore_n 37 [_, _] dX8_run_36 rfl (by decide) rfl ?_
      refine j_iconst 38 dX8_run_37 rfl ?_
      refine j_istore_n 39 [_, _, _] dX8_run_38 rfl (by decide) rfl ?_
      have key39 : ∀ (fu i : Nat), T.2.2.1.toNat < i + fu → (i : Int) ≤ T.2.2.1 → jG mX8_run E C (jQi E C ((((sRun x y z T.2.2.1 T.2.2.1.toNat).2, fEnd F T (fRun x (F 0) y z T.2.2.1 T.2.2.1.toNat)) : Int × (Nat → Int → Int)).1) (wModel E q (((sRun x y z T.2.2.1 T.2.2.1.toNat).2, fEnd F T (fRun x (F 0) y z T.2.2.1 T.2.2.1.toNat)) : Int × (Nat → Int → Int)).2)) 0 0 39 [(0, .ref (q 0)), (1, .int (jI (sRun x y z T.2.2.1 i).2)), (2, .int (jI (i : Int)))] [] (wModel E q (jS (jS (fCh (fT1 F T)) 0 (fRun x (F 0) y z T.2.2.1 i)) 6 (jU (fCh (fT1 F T) 6) 2 0))) := by
        intro fu
        induction fu with
        | zero => intro i h1 h2; exact absurd h1 (by omega)
        | succ fu ih =>
          intro i h1 h2
          refine j_iload_n 2 40 dX8_run_39 rfl rfl ?_
          refine j_aload_n 0 41 dX8_run_40 rfl rfl ?_
          refine j_get 0 9 3 44 in_X8_run_X8 dX8_run_41 rfl rfl rfl (by decide) rfl rfl ?_
          change jG _ E C _ 0 0 44 _ (.int (jI T.2.2.1) :: _) _
          refine j_icmp_ge 149 47 dX8_run_44 rfl (by decide) (by omega) (by omega) (fun h_44 => ?_) (fun h_44 => ?_)
          · skip
            obtain rfl : i = T.2.2.1.toNat := by omega
            refine j_iload_n 1 150 dX8_run_149 rfl rfl ?_
            exact j_iret dX8_run_150 rfl (by first | rfl | (exfalso; omega)) (by rfl)
          · skip
            have pi := pr1 i (by omega) (by omega)
            have oi := ok1 i (by omega) (by omega)
            have rl := Rel_run hi hN h0 ok1 hr i (by omega)
            have r1 := sRun1_rel hi hN h0 ok1 i (by omega) rl
            have ks : (z i = 0 ∧ kS (z i) = 120) ∨ (z i ≠ 0 ∧ kS (z i) ≠ 120 ∧ 0 ≤ kS (z i) ∧ kS (z i) ≤ 120) := by unfold kS; (repeat' split) <;> omega
            have r20 := (sRun_inv hi hN h0 ok1 i (by omega)).1.1 2 0
            have c37 := (Rel_cup0 rl).1
            refine j_aload_n 0 48 dX8_run_47 rfl rfl ?_
            refine j_get 0 10 4 51 in_X8_run_X8 dX8_run_48 rfl rfl rfl (by decide) rfl rfl ?_
            refine j_iconst 52 dX8_run_51 rfl ?_
            refine j_iload_n 2 53 dX8_run_52 rfl rfl ?_
            refine j_imul 54 dX8_run_53 rfl ?_
            refine j_iald 6 55 dX8_run_54 rfl rfl (by decide) (by omega) ?_
            change jG _ E C _ 0 0 55 _ (.int (jI (T.2.2.2 (5 * (i : Int)))) :: _) _
            rw [pi.1]
            refine j_bipush 57 dX8_run_55 rfl (by decide) ?_
            refine j_icmp_eq 97 60 dX8_run_57 rfl (by decide) (by omega) (by omega) (fun h_57 => ?_) (fun h_57 => ?_)
            · skip
              obtain ⟨G, eG⟩ : ∃ G, G = fRun1 (fRun x (F 0) y z T.2.2.1 i) y z i := ⟨_, rfl⟩
              first
                | (rw [show fRun1 (fRun x (F 0) y z T.2.2.1 i) y z i = fRun x (F 0) y z T.2.2.1 i from if_pos (by omega)] at eG)
                | (rw [show fRun1 (fRun x (F 0) y z T.2.2.1 i) y z i = fLays (fRun x (F 0) y z T.2.2.1 i) (y i) from if_neg (by omega)] at eG)
              refine j_eqw (w' := wModel E q (jS (jS (fCh (fT1 F T)) 0 G) 6 (jU (fCh (fT1 F T) 6) 2 0))) (by first | (rw [eG]; rfl) | rw [eG]) ?_
              have eG : G = fRun1 (fRun x (F 0) y z T.2.2.1 i) y z i := by
                rw [eG]
                unfold fRun1
                first
                  | rw [if_pos (by omega)]
                  | rw [if_neg (by omega)]
              have r1G := r1.1
              rw [← eG] at r1G
              clear ks
              refine j_iload_n 2 98 dX8_run_97 rfl rfl ?_
              refine j_iconst 99 dX8_run_98 rfl ?_
              refine j_iadd 100 dX8_run_99 rfl ?_
              refine j_aload_n 0 101 dX8_run_100 rfl rfl ?_
              refine j_get 0 9 3 104 in_X8_run_X8 dX8_run_101 rfl rfl rfl (by decide) rfl rfl ?_
              change jG _ E C _ 0 0 104 _ (.int (jI T.2.2.1) :: _) _
              refine j_icmp_ge 126 107 dX8_run_104 rfl (by decide) (by omega) (by omega) (fun h_104 => ?_) (fun h_104 => ?_)
              · skip
                refine j_iconst 127 dX8_run_126 rfl ?_
                refine j_istore_n 128 [_, _, _, _] dX8_run_127 rfl (by decide) rfl ?_
                refine j_iload_n 2 129 dX8_run_128 rfl rfl ?_
                refine j_iload_n 0 130 dX8_run_129 rfl rfl ?_
                refine j_if_eq 137 133 dX8_run_130 rfl (by decide) (by decide) (fun _ => ?_) (fun h => absurd h (by decide))
                refine j_aload_n 1 138 dX8_run_137 rfl rfl ?_
                refine j_callVi 0 [0, 1] 141 [_, _, _, _, _, _, _] (c_X8_tick E _ _ _ G (sRun1 (sRun x y z T.2.2.1 i).1 y z i) 512 (by exact r1.2.1) (by omega) (by exact r1G)) rfl kX8_run_X8_tick rfl rfl rfl rfl rfl rfl rfl (Nat.le_of_ble_eq_true rfl) (by decide) dX8_run_138 rfl ?_
                refine j_iadd 142 dX8_run_141 rfl ?_
                refine j_istore_n 143 [_, _, _, _] dX8_run_142 rfl (by decide) rfl ?_
                refine j_iinc 3 146 [_, _, _, _] dX8_run_143 rfl rfl (by decide) rfl ?_
                refine j_goto 39 dX8_run_146 (by decide) ?_
                refine j_perm [3, 1, 0] rfl ?_
                have k := ih (i + 1) (by omega) (by omega)
                first
                  | (have eS : sRun x y z T.2.2.1 (i + 1) = (sRun1 (sRun x y z T.2.2.1 i).1 y z i, (sRun x y z T.2.2.1 i).2) := if_pos (by omega)
                     have eF : fRun x (F 0) y z T.2.2.1 (i + 1) = fRun1 (fRun x (F 0) y z T.2.2.1 i) y z i := if_pos (by omega)
                     rw [eS, eF, ← eG] at k
                     rw [Int.add_zero]; exact k)
                  | (have eS : sRun x y z T.2.2.1 (i + 1) = (sTick (sRun1 (sRun x y z T.2.2.1 i).1 y z i), (sRun x y z T.2.2.1 i).2 + sTickN (sRun1 (sRun x y z T.2.2.1 i).1 y z i)) := if_neg (by omega)
                     have eF : fRun x (F 0) y z T.2.2.1 (i + 1) = fTick (sRun1 (sRun x y z T.2.2.1 i).1 y z i) (fRun1 (fRun x (F 0) y z T.2.2.1 i) y z i) := if_neg (by omega)
                     rw [eS, eF, ← eG] at k
                     exact k)
              · skip
                have pj := pr1 ((i : Int) + 1) (by omega) (by omega)
                have oj := ok1 ((i : Int) + 1) (by omega) (by omega)
                have ks : (z ((i : Int) + 1) = 2 ∧ kS (z ((i : Int) + 1)) = 38) ∨ (z ((i : Int) + 1) ≠ 2 ∧ kS (z ((i : Int) + 1)) ≠ 38 ∧ 0 ≤ kS (z ((i : Int) + 1)) ∧ kS (z ((i : Int) + 1)) ≤ 120) := by unfold kS; (repeat' split) <;> omega
                rw [show 5 * ((i : Int) + 1) = 5 * (i : Int) + 5 by omega] at pj
                refine j_aload_n 0 108 dX8_run_107 rfl rfl ?_
                refine j_get 0 10 4 111 in_X8_run_X8 dX8_run_108 rfl rfl rfl (by decide) rfl rfl ?_
                refine j_iconst 112 dX8_run_111 rfl ?_
                refine j_iload_n 2 113 dX8_run_112 rfl rfl ?_
                refine j_imul 114 dX8_run_113 rfl ?_
                refine j_iconst 115 dX8_run_114 rfl ?_
                refine j_iadd 116 dX8_run_115 rfl ?_
                refine j_iald 6 117 dX8_run_116 rfl rfl (by decide) (by omega) ?_
                change jG _ E C _ 0 0 117 _ (.int (jI (T.2.2.2 (5 * (i : Int) + 5))) :: _) _
                rw [pj.1]
                refine j_bipush 119 dX8_run_117 rfl (by decide) ?_
                refine j_icmp_ne 126 122 dX8_run_119 rfl (by decide) (by omega) (by omega) (fun h_119 => ?_) (fun h_119 => ?_)
                · skip
                  refine j_iconst 127 dX8_run_126 rfl ?_
                  refine j_istore_n 128 [_, _, _, _] dX8_run_127 rfl (by decide) rfl ?_
                  refine j_iload_n 2 129 dX8_run_128 rfl rfl ?_
                  refine j_iload_n 0 130 dX8_run_129 rfl rfl ?_
                  refine j_if_eq 137 133 dX8_run_130 rfl (by decide) (by decide) (fun _ => ?_) (fun h => absurd h (by decide))
                  refine j_aload_n 1 138 dX8_run_137 rfl rfl ?_
                  refine j_callVi 0 [0, 1] 141 [_, _, _, _, _, _, _] (c_X8_tick E _ _ _ G (sRun1 (sRun x y z T.2.2.1 i).1 y z i) 512 (by exact r1.2.1) (by omega) (by exact r1G)) rfl kX8_run_X8_tick rfl rfl rfl rfl rfl rfl rfl (Nat.le_of_ble_eq_true rfl) (by decide) dX8_run_138 rfl ?_
                  refine j_iadd 142 dX8_run_141 rfl ?_
                  refine j_istore_n 143 [_, _, _, _] dX8_run_142 rfl (by decide) rfl ?_
                  refine j_iinc 3 146 [_, _, _, _] dX8_run_143 rfl rfl (by decide) rfl ?_
                  refine j_goto 39 dX8_run_146 (by decide) ?_
                  refine j_perm [3, 1, 0] rfl ?_
                  have k := ih (i + 1) (by omega) (by omega)
                  first
                    | (have eS : sRun x y z T.2.2.1 (i + 1) = (sRun1 (sRun x y z T.2.2.1 i).1 y z i, (sRun x y z T.2.2.1 i).2) := if_pos (by omega)
                       have eF : fRun x (F 0) y z T.2.2.1 (i + 1) = fRun1 (fRun x (F 0) y z T.2.2.1 i) y z i := if_pos (by omega)
                       rw [eS, eF, ← eG] at k
                       rw [Int.add_zero]; exact k)
                    | (have eS : sRun x y z T.2.2.1 (i + 1) = (sTick (sRun1 (sRun x y z T.2.2.1 i).1 y z i), (sRun x y z T.2.2.1 i).2 + sTickN (sRun1 (sRun x y z T.2.2.1 i).1 y z i)) := if_neg (by omega)
                       have eF : fRun x (F 0) y z T.2.2.1 (i + 1) = fTick (sRun1 (sRun x y z T.2.2.1 i).1 y z i) (fRun1 (fRun x (F 0) y z T.2.2.1 i) y z i) := if_neg (by omega)
                       rw [eS, eF, ← eG] at k
                       exact k)
                · skip
                  refine j_iconst 123 dX8_run_122 rfl ?_
                  refine j_goto 127 dX8_run_123 (by decide) ?_
                  refine j_istore_n 128 [_, _, _, _] dX8_run_127 rfl (by decide) rfl ?_
                  refine j_iload_n 2 129 dX8_run_128 rfl rfl ?_
                  refine j_iload_n 0 130 dX8_run_129 rfl rfl ?_
                  refine j_if_eq 137 133 dX8_run_130 rfl (by decide) (by decide) (fun h => absurd h (by decide)) (fun _ => ?_)
                  refine j_iconst 134 dX8_run_133 rfl ?_
                  refine j_goto 141 dX8_run_134 (by decide) ?_
                  refine j_iadd 142 dX8_run_141 rfl ?_
                  refine j_istore_n 143 [_, _, _, _] dX8_run_142 rfl (by decide) rfl ?_
                  refine j_iinc 3 146 [_, _, _, _] dX8_run_143 rfl rfl (by decide) rfl ?_
                  refine j_goto 39 dX8_run_146 (by decide) ?_
                  refine j_perm [3, 1, 0] rfl ?_
                  have k := ih (i + 1) (by omega) (by omega)
                  first
                    | (have eS : sRun x y z T.2.2.1 (i + 1) = (sRun1 (sRun x y z T.2.2.1 i).1 y z i, (sRun x y z T.2.2.1 i).2) := if_pos (by omega)
                       have eF : fRun x (F 0) y z T.2.2.1 (i + 1) = fRun1 (fRun x (F 0) y z T.2.2.1 i) y z i := if_pos (by omega)
                       rw [eS, eF, ← eG] at k
                       rw [Int.add_zero]; exact k)
                    | (have eS : sRun x y z T.2.2.1 (i + 1) = (sTick (sRun1 (sRun x y z T.2.2.1 i).1 y z i), (sRun x y z T.2.2.1 i).2 + sTickN (sRun1 (sRun x y z T.2.2.1 i).1 y z i)) := if_neg (by omega)
                       have eF : fRun x (F 0) y z T.2.2.1 (i + 1) = fTick (sRun1 (sRun x y z T.2.2.1 i).1 y z i) (fRun1 (fRun x (F 0) y z T.2.2.1 i) y z i) := if_neg (by omega)
                       rw [eS, eF, ← eG] at k
                       exact k)
            · skip
              refine j_aload_n 0 61 dX8_run_60 rfl rfl ?_
              refine j_aload_n 0 62 dX8_run_61 rfl rfl ?_
              refine j_get 0 10 4 65 in_X8_run_X8 dX8_run_62 rfl rfl rfl (by decide) rfl rfl ?_
              refine j_iconst 66 dX8_run_65 rfl ?_
              refine j_iload_n 2 67 dX8_run_66 rfl rfl ?_
              refine j_imul 68 dX8_run_67 rfl ?_
              refine j_iconst 69 dX8_run_68 rfl ?_
              refine j_iadd 70 dX8_run_69 rfl ?_
              refine j_iald 6 71 dX8_run_70 rfl rfl (by decide) (by omega) ?_
              change jG _ E C _ 0 0 71 _ (.int (jI (T.2.2.2 (5 * (i : Int) + 1))) :: _) _
              refine j_aload_n 0 72 dX8_run_71 rfl rfl ?_
              refine j_get 0 10 4 75 in_X8_run_X8 dX8_run_72 rfl rfl rfl (by decide) rfl rfl ?_
              refine j_iconst 76 dX8_run_75 rfl ?_
              refine j_iload_n 2 77 dX8_run_76 rfl rfl ?_
              refine j_imul 78 dX8_run_77 rfl ?_
              refine j_iconst 79 dX8_run_78 rfl ?_
              refine j_iadd 80 dX8_run_79 rfl ?_
              refine j_iald 6 81 dX8_run_80 rfl rfl (by decide) (by omega) ?_
              change jG _ E C _ 0 0 81 _ (.int (jI (T.2.2.2 (5 * (i : Int) + 2))) :: _) _
              refine j_aload_n 0 82 dX8_run_81 rfl rfl ?_
              refine j_get 0 10 4 85 in_X8_run_X8 dX8_run_82 rfl rfl rfl (by decide) rfl rfl ?_
              refine j_iconst 86 dX8_run_85 rfl ?_
              refine j_iload_n 2 87 dX8_run_86 rfl rfl ?_
              refine j_imul 88 dX8_run_87 rfl ?_
              refine j_iconst 89 dX8_run_88 rfl ?_
              refine j_iadd 90 dX8_run_89 rfl ?_
              refine j_iald 6 91 dX8_run_90 rfl rfl (by decide) (by omega) ?_
              change jG _ E C _ 0 0 91 _ (.int (jI (T.2.2.2 (5 * (i : Int) + 3))) :: _) _
              refine j_callSi [] 94 [_, _, _, _, _, _, _] (c_X8_packed E _ _ _ ) rfl kX8_run_X8_packed rfl rfl rfl rfl rfl (Nat.le_of_ble_eq_true rfl) (by decide) dX8_run_91 rfl ?_
              rw [pi.2 (by omega)]
              refine j_callVv 0 [0, 1] 97 [_, _, _, _, _, _, _] (c_X8_lays E _ _ _ (fRun x (F 0) y z T.2.2.1 i) _ (by omega)) rfl kX8_run_X8_lays rfl rfl rfl rfl rfl rfl rfl (Nat.le_of_ble_eq_true rfl) (by decide) dX8_run_94 rfl ?_
              obtain ⟨G, eG⟩ : ∃ G, G = fRun1 (fRun x (F 0) y z T.2.2.1 i) y z i := ⟨_, rfl⟩
              first
                | (rw [show fRun1 (fRun x (F 0) y z T.2.2.1 i) y z i = fRun x (F 0) y z T.2.2.1 i from if_pos (by omega)] at eG)
                | (rw [show fRun1 (fRun x (F 0) y z T.2.2.1 i) y z i = fLays (fRun x (F 0) y z T.2.2.1 i) (y i) from if_neg (by omega)] at eG)
              refine j_eqw (w' := wModel E q (jS (jS (fCh (fT1 F T)) 0 G) 6 (jU (fCh (fT1 F T) 6) 2 0))) (by first | (rw [eG]; rfl) | rw [eG]) ?_
              have eG : G = fRun1 (fRun x (F 0) y z T.2.2.1 i) y z i := by
                rw [eG]
                unfold fRun1
                first
                  | rw [if_pos (by omega)]
                  | rw [if_neg (by omega)]
              have r1G := r1.1
              rw [← eG] at r1G
              clear ks
              refine j_iload_n 2 98 dX8_run_97 rfl rfl ?_
              refine j_iconst 99 dX8_run_98 rfl ?_
              refine j_iadd 100 dX8_run_99 rfl ?_
              refine j_aload_n 0 101 dX8_run_100 rfl rfl ?_
              refine j_get 0 9 3 104 in_X8_run_X8 dX8_run_101 rfl rfl rfl (by decide) rfl rfl ?_
              change jG _ E C _ 0 0 104 _ (.int (jI T.2.2.1) :: _) _
              refine j_icmp_ge 126 107 dX8_run_104 rfl (by decide) (by omega) (by omega) (fun h_104 => ?_) (fun h_104 => ?_)
              · skip
                refine j_iconst 127 dX8_run_126 rfl ?_
                refine j_istore_n 128 [_, _, _, _] dX8_run_127 rfl (by decide) rfl ?_
                refine j_iload_n 2 129 dX8_run_128 rfl rfl ?_
                refine j_iload_n 0 130 dX8_run_129 rfl rfl ?_
                refine j_if_eq 137 133 dX8_run_130 rfl (by decide) (by decide) (fun _ => ?_) (fun h => absurd h (by decide))
                refine j_aload_n 1 138 dX8_run_137 rfl rfl ?_
                refine j_callVi 0 [0, 1] 141 [_, _, _, _, _, _, _] (c_X8_tick E _ _ _ G (sRun1 (sRun x y z T.2.2.1 i).1 y z i) 512 (by exact r1.2.1) (by omega) (by exact r1G)) rfl kX8_run_X8_tick rfl rfl rfl rfl rfl rfl rfl (Nat.le_of_ble_eq_true rfl) (by decide) dX8_run_138 rfl ?_
                refine j_iadd 142 dX8_run_141 rfl ?_
                refine j_istore_n 143 [_, _, _, _] dX8_run_142 rfl (by decide) rfl ?_
                refine j_iinc 3 146 [_, _, _, _] dX8_run_143 rfl rfl (by decide) rfl ?_
                refine j_goto 39 dX8_run_146 (by decide) ?_
                refine j_perm [3, 1, 0] rfl ?_
                have k := ih (i + 1) (by omega) (by omega)
                first
                  | (have eS : sRun x y z T.2.2.1 (i + 1) = (sRun1 (sRun x y z T.2.2.1 i).1 y z i, (sRun x y z T.2.2.1 i).2) := if_pos (by omega)
                     have eF : fRun x (F 0) y z T.2.2.1 (i + 1) = fRun1 (fRun x (F 0) y z T.2.2.1 i) y z i := if_pos (by omega)
                     rw [eS, eF, ← eG] at k
                     rw [Int.add_zero]; exact k)
                  | (have eS : sRun x y z T.2.2.1 (i + 1) = (sTick (sRun1 (sRun x y z T.2.2.1 i).1 y z i), (sRun x y z T.2.2.1 i).2 + sTickN (sRun1 (sRun x y z T.2.2.1 i).1 y z i)) := if_neg (by omega)
                     have eF : fRun x (F 0) y z T.2.2.1 (i + 1) = fTick (sRun1 (sRun x y z T.2.2.1 i).1 y z i) (fRun1 (fRun x (F 0) y z T.2.2.1 i) y z i) := if_neg (by omega)
                     rw [eS, eF, ← eG] at k
                     exact k)
              · skip
                have pj := pr1 ((i : Int) + 1) (by omega) (by omega)
                have oj := ok1 ((i : Int) + 1) (by omega) (by omega)
                have ks : (z ((i : Int) + 1) = 2 ∧ kS (z ((i : Int) + 1)) = 38) ∨ (z ((i : Int) + 1) ≠ 2 ∧ kS (z ((i : Int) + 1)) ≠ 38 ∧ 0 ≤ kS (z ((i : Int) + 1)) ∧ kS (z ((i : Int) + 1)) ≤ 120) := by unfold kS; (repeat' split) <;> omega
                rw [show 5 * ((i : Int) + 1) = 5 * (i : Int) + 5 by omega] at pj
                refine j_aload_n 0 108 dX8_run_107 rfl rfl ?_
                refine j_get 0 10 4 111 in_X8_run_X8 dX8_run_108 rfl rfl rfl (by decide) rfl rfl ?_
                refine j_iconst 112 dX8_run_111 rfl ?_
                refine j_iload_n 2 113 dX8_run_112 rfl rfl ?_
                refine j_imul 114 dX8_run_113 rfl ?_
                refine j_iconst 115 dX8_run_114 rfl ?_
                refine j_iadd 116 dX8_run_115 rfl ?_
                refine j_iald 6 117 dX8_run_116 rfl rfl (by decide) (by omega) ?_
                change jG _ E C _ 0 0 117 _ (.int (jI (T.2.2.2 (5 * (i : Int) + 5))) :: _) _
                rw [pj.1]
                refine j_bipush 119 dX8_run_117 rfl (by decide) ?_
                refine j_icmp_ne 126 122 dX8_run_119 rfl (by decide) (by omega) (by omega) (fun h_119 => ?_) (fun h_119 => ?_)
                · skip
                  refine j_iconst 127 dX8_run_126 rfl ?_
                  refine j_istore_n 128 [_, _, _, _] dX8_run_127 rfl (by decide) rfl ?_
                  refine j_iload_n 2 129 dX8_run_128 rfl rfl ?_
                  refine j_iload_n 0 130 dX8_run_129 rfl rfl ?_
                  refine j_if_eq 137 133 dX8_run_130 rfl (by decide) (by decide) (fun _ => ?_) (fun h => absurd h (by decide))
                  refine j_aload_n 1 138 dX8_run_137 rfl rfl ?_
                  refine j_callVi 0 [0, 1] 141 [_, _, _, _, _, _, _] (c_X8_tick E _ _ _ G (sRun1 (sRun x y z T.2.2.1 i).1 y z i) 512 (by exact r1.2.1) (by omega) (by exact r1G)) rfl kX8_run_X8_tick rfl rfl rfl rfl rfl rfl rfl (Nat.le_of_ble_eq_true rfl) (by decide) dX8_run_138 rfl ?_
                  refine j_iadd 142 dX8_run_141 rfl ?_
                  refine j_istore_n 143 [_, _, _, _] dX8_run_142 rfl (by decide) rfl ?_
                  refine j_iinc 3 146 [_, _, _, _] dX8_run_143 rfl rfl (by decide) rfl ?_
                  refine j_goto 39 dX8_run_146 (by decide) ?_
                  refine j_perm [3, 1, 0] rfl ?_
                  have k := ih (i + 1) (by omega) (by omega)
                  first
                    | (have eS : sRun x y z T.2.2.1 (i + 1) = (sRun1 (sRun x y z T.2.2.1 i).1 y z i, (sRun x y z T.2.2.1 i).2) := if_pos (by omega)
                       have eF : fRun x (F 0) y z T.2.2.1 (i + 1) = fRun1 (fRun x (F 0) y z T.2.2.1 i) y z i := if_pos (by omega)
                       rw [eS, eF, ← eG] at k
                       rw [Int.add_zero]; exact k)
                    | (have eS : sRun x y z T.2.2.1 (i + 1) = (sTick (sRun1 (sRun x y z T.2.2.1 i).1 y z i), (sRun x y z T.2.2.1 i).2 + sTickN (sRun1 (sRun x y z T.2.2.1 i).1 y z i)) := if_neg (by omega)
                       have eF : fRun x (F 0) y z T.2.2.1 (i + 1) = fTick (sRun1 (sRun x y z T.2.2.1 i).1 y z i) (fRun1 (fRun x (F 0) y z T.2.2.1 i) y z i) := if_neg (by omega)
                       rw [eS, eF, ← eG] at k
                       exact k)
                · skip
                  refine j_iconst 123 dX8_run_122 rfl ?_
                  refine j_goto 127 dX8_run_123 (by decide) ?_
                  refine j_istore_n 128 [_, _, _, _] dX8_run_127 rfl (by decide) rfl ?_
                  refine j_iload_n 2 129 dX8_run_128 rfl rfl ?_
                  refine j_iload_n 0 130 dX8_run_129 rfl rfl ?_
                  refine j_if_eq 137 133 dX8_run_130 rfl (by decide) (by decide) (fun h => absurd h (by decide)) (fun _ => ?_)
                  refine j_iconst 134 dX8_run_133 rfl ?_
                  refine j_goto 141 dX8_run_134 (by decide) ?_
                  refine j_iadd 142 dX8_run_141 rfl ?_
                  refine j_istore_n 143 [_, _, _, _] dX8_run_142 rfl (by decide) rfl ?_
                  refine j_iinc 3 146 [_, _, _, _] dX8_run_143 rfl rfl (by decide) rfl ?_
                  refine j_goto 39 dX8_run_146 (by decide) ?_
                  refine j_perm [3, 1, 0] rfl ?_
                  have k := ih (i + 1) (by omega) (by omega)
                  first
                    | (have eS : sRun x y z T.2.2.1 (i + 1) = (sRun1 (sRun x y z T.2.2.1 i).1 y z i, (sRun x y z T.2.2.1 i).2) := if_pos (by omega)
                       have eF : fRun x (F 0) y z T.2.2.1 (i + 1) = fRun1 (fRun x (F 0) y z T.2.2.1 i) y z i := if_pos (by omega)
                       rw [eS, eF, ← eG] at k
                       rw [Int.add_zero]; exact k)
                    | (have eS : sRun x y z T.2.2.1 (i + 1) = (sTick (sRun1 (sRun x y z T.2.2.1 i).1 y z i), (sRun x y z T.2.2.1 i).2 + sTickN (sRun1 (sRun x y z T.2.2.1 i).1 y z i)) := if_neg (by omega)
                       have eF : fRun x (F 0) y z T.2.2.1 (i + 1) = fTick (sRun1 (sRun x y z T.2.2.1 i).1 y z i) (fRun1 (fRun x (F 0) y z T.2.2.1 i) y z i) := if_neg (by omega)
                       rw [eS, eF, ← eG] at k
                       exact k)
      refine j_perm [2, 1, 0] rfl ?_
      exact key39 (T.2.2.1.toNat + 1) 0 (by omega) (by omega)
    · skip
      have e : rRunM x y z F T = (-3, fT1 F T) := by unfold rRunM; rw [if_neg (by omega), if_pos (by omega)]
      rw [e]
      refine j_bipush 25 dX8_run_23 rfl (by decide) ?_
      exact j_iret dX8_run_25 rfl (by first | rfl | (exfalso; omega)) (by rfl)
  · skip
    have e : rRunM x y z F T = (-2, fT1 F T) := if_pos (by omega)
    rw [e]
    refine j_bipush 12 dX8_run_10 rfl (by decide) ?_
    exact j_iret dX8_run_12 rfl (by first | rfl | (exfalso; omega)) (by rfl)
