/-! CupEye.set: its static arrays -/
def jT2 (A : Nat → Prop) (U : State) : Prop := ∃ t1 t2 : Nat, va_Z "CupEye" "LEAST_SETTING" "[I" (.ref t1) A U U.heap ∧ va_T .int t1 3 (fun j => Value.int (jI (setLo j))) A U U.heap ∧ va_Z "CupEye" "MOST_SETTING" "[I" (.ref t2) A U U.heap ∧ va_T .int t2 3 (fun j => Value.int (jI (setHi j))) A U U.heap
def jMS (E : jE) (y : MethodName) (ws : List Cond) (rm : Room) (as : List Value) (w : va_W) (z : Int) (w' : va_W) : Prop := ∀ (l : Launch) (sz : Nat), Met l y ws rm (fun a U => jPc E sz as w a U ∧ jT2 (va_A w sz) U) (va_Qi (fun (r : Int32) (_ : Unit) => r = jI z) (fun _ t => jAt E (va_A w sz) w' t) (va_A w sz)) 0 0 (va_A w sz)
theorem jMS_of {E : jE} {cc : ByteArray} {y : MethodName} {ws ws' : List Cond} {rm : Room} {maxL : Nat} {ret : Option FieldType} {as : List Value} {w w' : va_W} {z : Int} (L0 : List (Nat × Value)) (hy : plainName y.cls = true) (hw : ws = Cond.code y cc maxL ret :: ws') (hL : lv_args 0 as = L0) (hn : (lg_sl as).length ≤ maxL) (h : ∀ C : jC, jT2 (jcA C) (jcS C) → jG (cc, ws, y.cls, maxL, ret, rm) E C (jQi E C z w') 0 0 0 L0 [] w) : jMS E y ws rm as w z w' := by
  intro l sz
  refine Met.ofW (cc := cc) (maxL := maxL) (ret := ret) hy hw ?_
  intro p e s m args below meth c s₁ B hml hv
  obtain ⟨⟨rfl, hsz, hP, hK, hD0, hN⟩, hT⟩ := hv
  subst hsz
  have hD := hD0.self (sz := s.heap.size)
  have hl := lv_entry as (n := maxL) hn
  rw [lg_entry_eq]
  rw [hL] at hl
  exact h (p, l, e, s, m, as.toArray, below, meth, c, va_A w s.heap.size) hT ⟨B.exec, B.bytes, hml, findClass_of_methodNamed B.named, atoms_spec (ws := ws) B.pre, hK, fun q hq => Or.inr hq, B.returns, B.notSynchronized, hN⟩ s.heap [] _ hP hD va_S.rf hl
section
variable {M : jM} {E : jE} {C : jC} {Q : State → Prop} {k n pc : Nat} {L : List (Nat × Value)} {S : List Value} {w : va_W}
theorem j_getsS {nm d : String} {t index : Nat} (pc' : Nat) (hd : decode M.1 pc = .ok (.getstatic index, 3)) (hn : pc + 3 = pc') (hZ : va_Z "CupEye" nm d (.ref t) (jcA C) (jcS C) (jcS C).heap) (hl : (.fieldLink M.2.2.1 index "CupEye" nm d : Cond) ∈ M.2.1) (kk : jG M E C Q k n pc' L (.ref t :: S) w) : jG M E C Q k n pc L S w := by
  subst hn
  intro hF H locs ls hP hD hS hl'
  exact va_gets hF.1 hF.2.1 hZ hS hF.2.2.2.1 (hF.2.2.2.2.1 _ hl) (fun _ h => h) hd (kk hF H locs ls hP hD hS hl')
theorem j_stI {t N : Nat} {g : Int → Int} {i : Int} (pc' : Nat) (hd : decode M.1 pc = .ok (.iaload, 1)) (hn : pc + 1 = pc') (hT : va_T .int t N (fun j => Value.int (jI (g j))) (jcA C) (jcS C) (jcS C).heap) (hN : N < 2147483648) (hi : 0 ≤ i ∧ i < (N : Int)) (kk : jG M E C Q k n pc' L (.int (jI (g i)) :: S) w) : jG M E C Q k n pc L (.int (jI i) :: .ref t :: S) w := by
  subst hn
  intro hF H locs ls hP hD hS hl'
  refine va_ti hF.1 hF.2.1 hT hS (jI_in hi hN) (v := .int (jI (g i))) ?_ hd (kk hF H locs ls hP hD hS hl')
  show Value.int (jI (g ((jI i).toNatClampNeg : Int))) = _
  rw [jI_clamp ⟨hi.1, by omega⟩, Int.toNat_of_nonneg hi.1]
end
set_option maxRecDepth 20000 in
theorem in_X7_set_X7 : ∀ x ∈ u_ws RX7 TX7 6, x ∈ wsX7_set := by decide +kernel
theorem kX7_set_X3_keep : jKv mX7_set 56 yX3_keep wsX3_keep rmX3_keep 1 := ⟨gX7_set_X3_keep, ⟨_, _, _, _, rfl, by decide⟩, by decide +kernel, rfl, rfl, by decide⟩
theorem kX7_set_X5_settingShown : jKv mX7_set 113 yX5_settingShown wsX5_settingShown rmX5_settingShown 1 := ⟨gX7_set_X5_settingShown, ⟨_, _, _, _, rfl, by decide⟩, by decide +kernel, rfl, rfl, by decide⟩
set_option maxRecDepth 20000 in
theorem in_X7_set_X5 : ∀ x ∈ u_ws RX5 TX5 11, x ∈ wsX7_set := by decide +kernel
set_option maxRecDepth 100000 in
set_option maxHeartbeats 4000000 in
theorem c_X7_set (E : jE) (ad qh : Nat → Nat → Nat) (S H : Nat → Nat → Int → Int) (P : Nat → Int → Int) (v : Int → Int) (w a : Int) (hc0 : cOK S H P v) (wb : -2147483648 ≤ w ∧ w < 2147483648) (ab : -2147483648 ≤ a ∧ a < 2147483648) : jMS E yX7_set wsX7_set rmX7_set [.ref (ad 7 0), .int (jI w), .int (jI a)] (wEye E ad qh S H P v) ((mSet S H P v w a).1) (wEyeC E ad qh (mSet S H P v w a).2) := by
  refine jMS_of (cc := cX7_set) (maxL := 4) (ret := (some .int)) [(0, .ref (ad 7 0)), (1, .int (jI w)), (2, .int (jI a))] (by decide) rfl rfl (Nat.le_of_ble_eq_true rfl) (fun C hT2 => ?_)
  show jG mX7_set E C (jQi E C ((mSet S H P v w a).1) (wEyeC E ad qh (mSet S H P v w a).2)) 0 0 0 [(0, .ref (ad 7 0)), (1, .int (jI w)), (2, .int (jI a))] [] (wEye E ad qh S H P v)
  obtain ⟨okS, okH, rv1, rv2, rv0, rv3, rP0⟩ := hc0
  have hx := okS 0
  have r0 : ∀ i, 0 ≤ S 0 0 i ∧ S 0 0 i < 404000 := hx 0
  have r1 : ∀ i, 0 ≤ S 0 1 i ∧ S 0 1 i ≤ 3 := hx 1
  have r2 : ∀ i, 0 ≤ S 0 2 i ∧ S 0 2 i ≤ 2 := hx 2
  have r3 : ∀ i, -1 ≤ S 0 3 i ∧ S 0 3 i ≤ 4 := hx 3
  have r4 : ∀ i, 0 ≤ S 0 4 i ∧ S 0 4 i < 404000 := hx 4
  have r5 : ∀ i, 0 ≤ S 0 5 i ∧ S 0 5 i ≤ 512 ∧ (i < 4 → S 0 5 i ≤ 20) := hx 5
  have r6 : ∀ i, 0 ≤ S 0 6 i ∧ S 0 6 i < 404000 := hx 6
  have r7 : (-20 ≤ S 0 7 0 ∧ S 0 7 0 ≤ 20) ∧ (0 ≤ S 0 7 1 ∧ S 0 7 1 ≤ 9) ∧ (1 ≤ S 0 7 2 ∧ S 0 7 2 ≤ 20) := hx 7
  have r8 : ∀ i, S 0 8 i = 0 ∨ S 0 8 i = 1 := hx 8
  have r9 : 0 ≤ S 0 9 0 ∧ S 0 9 0 ≤ 8 := hx 9
  have r20 := r2 0
  have bl : -20 ≤ setLo w ∧ setLo w ≤ 1 := by
    unfold setLo
    (repeat' split) <;> omega
  have bh : 9 ≤ setHi w ∧ setHi w ≤ 20 := by
    unfold setHi
    split <;> omega
  obtain ⟨t1, t2, z1, u1, z2, u2⟩ := hT2
  refine j_iload_n 1 1 dX7_set_0 rfl rfl ?_
  refine j_if_lt 27 4 dX7_set_1 rfl (by decide) (by omega) (fun h_1 => ?_) (fun h_1 => ?_)
  · skip
    have e : mSet S H P v w a = (-1, S, H, P, v) := if_pos (by omega)
    rw [e]
    refine j_iconst 28 dX7_set_27 rfl ?_
    exact j_iret dX7_set_28 rfl (by first | rfl | (exfalso; omega)) (by rfl)
  · skip
    refine j_iload_n 1 5 dX7_set_4 rfl rfl ?_
    refine j_iconst 6 dX7_set_5 rfl ?_
    refine j_icmp_ge 27 9 dX7_set_6 rfl (by decide) (by omega) (by omega) (fun h_6 => ?_) (fun h_6 => ?_)
    · skip
      have e : mSet S H P v w a = (-1, S, H, P, v) := if_pos (by omega)
      rw [e]
      refine j_iconst 28 dX7_set_27 rfl ?_
      exact j_iret dX7_set_28 rfl (by first | rfl | (exfalso; omega)) (by rfl)
    · skip
      refine j_iload_n 2 10 dX7_set_9 rfl rfl ?_
      refine j_getsS 13 dX7_set_10 rfl z1 (List.mem_of_getElem? (i := 1) rfl) ?_
      refine j_iload_n 1 14 dX7_set_13 rfl rfl ?_
      refine j_stI (g := setLo) 15 dX7_set_14 rfl u1 (by decide) (by omega) ?_
      refine j_icmp_lt 27 18 dX7_set_15 rfl (by decide) (by omega) (by omega) (fun h_15 => ?_) (fun h_15 => ?_)
      · skip
        have e : mSet S H P v w a = (-1, S, H, P, v) := if_pos (by omega)
        rw [e]
        refine j_iconst 28 dX7_set_27 rfl ?_
        exact j_iret dX7_set_28 rfl (by first | rfl | (exfalso; omega)) (by rfl)
      · skip
        refine j_iload_n 2 19 dX7_set_18 rfl rfl ?_
        refine j_getsS 22 dX7_set_19 rfl z2 (List.mem_of_getElem? (i := 2) rfl) ?_
        refine j_iload_n 1 23 dX7_set_22 rfl rfl ?_
        refine j_stI (g := setHi) 24 dX7_set_23 rfl u2 (by decide) (by omega) ?_
        refine j_icmp_le 29 27 dX7_set_24 rfl (by decide) (by omega) (by omega) (fun h_24 => ?_) (fun h_24 => ?_)
        · skip
          have e : mSet S H P v w a = (if w = 0 then S 0 7 w + 20 else S 0 7 w, cU S 0 (jS (S 0) 7 (jU (S 0 7) w a)), kH S H v, P, kV v) := if_neg (by omega)
          rw [e]
          refine j_aload_n 0 30 dX7_set_29 rfl rfl ?_
          refine j_getB 0 0 3 3 33 in_X7_set_X7 dX7_set_30 rfl rfl rfl rfl (by decide) rfl rfl ?_
          refine j_aload_n 0 34 dX7_set_33 rfl rfl ?_
          refine j_getB 0 0 0 4 37 in_X7_set_X7 dX7_set_34 rfl rfl rfl rfl (by decide) rfl rfl ?_
          refine j_callVvB (wcs := [_, _, _, _, _, _]) (cs := [_, _, _, _, _, _]) 2 0 [2, 6, 7, 8, 9, 3] 40 [_, _, _, _, _, _, _, _, _, _] (c_X3_keep E _ _ _ _ _ _ _ _ (by exact hx) (by omega) (by omega)) rfl rfl rfl kX7_set_X3_keep rfl rfl rfl rfl rfl rfl rfl (Nat.le_of_ble_eq_true rfl) (by decide) dX7_set_37 rfl ?_
          refine j_aload_n 0 41 dX7_set_40 rfl rfl ?_
          refine j_getB 0 0 0 4 44 in_X7_set_X7 dX7_set_41 rfl rfl rfl rfl (by decide) rfl rfl ?_
          refine j_iload_n 1 45 dX7_set_44 rfl rfl ?_
          refine j_callViB (wcs := [_]) (cs := [_]) 3 0 [3] 48 [_, _, _, _, _, _, _, _, _, _] (c_X5_settingShown E _ _ _ (by exact hx) (by omega)) rfl rfl rfl kX7_set_X5_settingShown rfl rfl rfl rfl rfl rfl rfl (Nat.le_of_ble_eq_true rfl) (by decide) dX7_set_45 rfl ?_
          refine j_istore_n 49 [_, _, _, _] dX7_set_48 rfl (by decide) rfl ?_
          refine j_aload_n 1 50 dX7_set_49 rfl rfl ?_
          refine j_getB 0 0 0 4 53 in_X7_set_X7 dX7_set_50 rfl rfl rfl rfl (by decide) rfl rfl ?_
          refine j_getB 3 0 3 5 56 in_X7_set_X5 dX7_set_53 rfl rfl rfl rfl (by decide) rfl rfl ?_
          refine j_iload_n 2 57 dX7_set_56 rfl rfl ?_
          refine j_iload_n 3 58 dX7_set_57 rfl rfl ?_
          refine j_iastB 3 11 59 [_, _, _, _, _, _, _, _, _, _, _, _, _] [_, _, _, _, _, _, _, _, _, _] dX7_set_58 rfl rfl rfl (by decide) (by omega) rfl rfl ?_
          refine j_iload_n 0 60 dX7_set_59 rfl rfl ?_
          exact j_iret dX7_set_60 rfl (by refine congrArg jI (?_ : (if w = 0 then S 0 7 0 + 20 else S 0 7 w) = (if w = 0 then S 0 7 w + 20 else S 0 7 w)); by_cases q : w = 0; (rw [if_pos q, if_pos q, q]); (rw [if_neg q, if_neg q])) (by rfl)
        · skip
          have e : mSet S H P v w a = (-1, S, H, P, v) := if_pos (by omega)
          rw [e]
          refine j_iconst 28 dX7_set_27 rfl ?_
          exact j_iret dX7_set_28 rfl (by first | rfl | (exfalso; omega)) (by rfl)
