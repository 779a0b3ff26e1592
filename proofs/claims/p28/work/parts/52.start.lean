theorem jNest_in : ∀ x ∈ jNest, x ∈ lw_tbl := List.forall_mem_cons.mpr ⟨(lwm1 (List.mem_of_getElem? (l := tables_1_1) (i := 21) (by decide +kernel))), List.forall_mem_cons.mpr ⟨(lwm1 (List.mem_of_getElem? (l := tables_1_1) (i := 27) (by decide +kernel))), List.forall_mem_cons.mpr ⟨(lwm1 (List.mem_of_getElem? (l := tables_1_1) (i := 68) (by decide +kernel))), List.forall_mem_cons.mpr ⟨(lwm1 (List.mem_of_getElem? (l := tables_1_1) (i := 135) (by decide +kernel))), List.forall_mem_cons.mpr ⟨(lwm1 (List.mem_of_getElem? (l := tables_1_1) (i := 149) (by decide +kernel))), List.forall_mem_cons.mpr ⟨(lwm1 (List.mem_of_getElem? (l := tables_1_1) (i := 139) (by decide +kernel))), List.forall_mem_cons.mpr ⟨(lwm1 (List.mem_of_getElem? (l := tables_1_1) (i := 157) (by decide +kernel))), fun _ h => absurd h List.not_mem_nil⟩⟩⟩⟩⟩⟩⟩
theorem jNest_on : ∀ x ∈ jNest, x.onTables = true := by
  intro x hx
  simp only [jNest, List.mem_cons, List.not_mem_nil, or_false] at hx
  rcases hx with rfl | rfl | rfl | rfl | rfl | rfl | rfl <;> rfl
theorem jNs_at {a : Array Value} {s : State} (hts : ∀ w ∈ lw_tbl, w.before a s = true) : jNs s := fun x hx => va_Nw.of (jNest_on x hx) (hts x (jNest_in x hx))
theorem jO_at {a : Array Value} {s : State} (hts : ∀ w ∈ lw_tbl, w.before a s = true) : jO s := va_AO.of (hts (.arrayOver (.object "CupEye$State")) (lwm1 (List.mem_of_getElem? (l := tables_1_1) (i := 134) (by decide +kernel))))
/-- what the tables say of classes and arrays -/
theorem jK_at {a : Array Value} {s : State} (hts : ∀ w ∈ lw_tbl, w.before a s = true) : ∃ E : jE, va_K E.1 vwCl (jTys E) s := by
  obtain ⟨c0, i0, k0⟩ := u_known (C := RX0) (T := TX0) (N := 3) (n := 3) hts inX0 (hts (.instantiable RX0 3) (lwm1 (List.mem_of_getElem? (l := tables_1_1) (i := 46) (by decide +kernel))))
  obtain ⟨c1, i1, k1⟩ := u_known (C := RX1) (T := TX1) (N := 3) (n := 3) hts inX1 (hts (.instantiable RX1 3) (lwm1 (List.mem_of_getElem? (l := tables_1_1) (i := 26) (by decide +kernel))))
  obtain ⟨c2, i2, k2⟩ := u_known (C := RX2) (T := TX2) (N := 2) (n := 2) hts inX2 (hts (.instantiable RX2 2) (lwm1 (List.mem_of_getElem? (l := tables_1_1) (i := 67) (by decide +kernel))))
  obtain ⟨c3, i3, k3⟩ := u_known (C := RX3) (T := TX3) (N := 3) (n := 3) hts inX3 (hts (.instantiable RX3 3) (lwm1 (List.mem_of_getElem? (l := tables_1_1) (i := 128) (by decide +kernel))))
  obtain ⟨c4, i4, k4⟩ := u_known (C := RX4) (T := TX4) (N := 8) (n := 8) hts inX4 (hts (.instantiable RX4 8) (lwm1 (List.mem_of_getElem? (l := tables_1_1) (i := 148) (by decide +kernel))))
  obtain ⟨c5, i5, k5⟩ := u_known (C := RX5) (T := TX5) (N := 11) (n := 11) hts inX5 (hts (.instantiable RX5 11) (lwm1 (List.mem_of_getElem? (l := tables_1_1) (i := 20) (by decide +kernel))))
  obtain ⟨c6, i6, k6⟩ := u_known (C := RX7) (T := TX7) (N := 6) (n := 6) hts inX7 (hts (.instantiable RX7 6) (lwm1 (List.mem_of_getElem? (l := tables_1_1) (i := 12) (by decide +kernel))))
  obtain ⟨cI, kI, pI, f1, f2, f3⟩ := Cond.arrayClass_spec (hts (.arrayClass .int) (lwm1 (List.mem_of_getElem? (l := tables_1_1) (i := 44) (by decide +kernel))))
  obtain ⟨cZ, kZ, pZ, g1, g2, g3⟩ := Cond.arrayClass_spec (hts (.arrayClass .boolean) (lwm1 (List.mem_of_getElem? (l := tables_1_1) (i := 126) (by decide +kernel))))
  obtain ⟨pS, cS, kS, e1, e2, e3, e4, e5⟩ := Cond.arrayOver_spec (jO_at hts)
  refine ⟨((fun k => match k with | 0 => c0 | 1 => c1 | 2 => c2 | 3 => c3 | 4 => c4 | 5 => c5 | _ => c6, fun k => match k with | 0 => i0 | 1 => i1 | 2 => i2 | 3 => i3 | 4 => i4 | 5 => i5 | _ => i6), cI, cZ, cS), fun k q hq => ?_, fun k q hq => ?_⟩
  · match k, hq with
    | 0, hq => cases hq; exact k0
    | 1, hq => cases hq; exact k1
    | 2, hq => cases hq; exact k2
    | 3, hq => cases hq; exact k3
    | 4, hq => cases hq; exact k4
    | 5, hq => cases hq; exact k5
    | 6, hq => cases hq; exact k6
    | k + 7, hq => simp [vwCl] at hq
  · match k, hq with
    | 0, hq => cases hq; exact ⟨fun n z => ⟨(fun k h => by cases h), kI, f2, pI, f3⟩, f1⟩
    | 1, hq => cases hq; exact ⟨fun n z => ⟨(fun k h => by cases h), kZ, g2, pZ, g3⟩, g1⟩
    | 2, hq => cases hq; exact ⟨fun n z => ⟨(fun k h => by cases h), kS, e3, pS, e4⟩, kS, pS, e3, e4, e1, e5⟩
    | k + 3, hq => simp [jTys] at hq
/-- the class's two static arrays -/
theorem jT2_at0 {a : Array Value} {s : State} (hts : ∀ w ∈ lw_tbl, w.before a s = true) (hgv : (Jvm.Cond.and given_1 narrow_1).before a s = true) : jT2 (fun q : Nat => s.heap.size ≤ q) s := by
  have hg := flat_of_before _ hgv
  have hA : ∀ q : Nat, q < s.heap.size → ¬ (fun q : Nat => s.heap.size ≤ q) q := fun q h => Nat.not_le.mpr h
  have v00 : (Term.elem (Term.static "CupEye" "LEAST_SETTING" "[I") (.int 0)).eval a s none [] s = some (.int (jI (setLo ((0 : Nat) : Int)))) := by
    have h := va_eqt (hg (.eq (.elem (Term.static "CupEye" "LEAST_SETTING" "[I") (.int 0)) (.int (-20))) (by decide +kernel))
    rw [show (-20 : Int32) = jI (setLo ((0 : Nat) : Int)) by decide] at h
    exact h
  have v01 : (Term.elem (Term.static "CupEye" "LEAST_SETTING" "[I") (.int 1)).eval a s none [] s = some (.int (jI (setLo ((1 : Nat) : Int)))) := by
    have h := va_eqt (hg (.eq (.elem (Term.static "CupEye" "LEAST_SETTING" "[I") (.int 1)) (.int (0))) (by decide +kernel))
    rw [show (0 : Int32) = jI (setLo ((1 : Nat) : Int)) by decide] at h
    exact h
  have v02 : (Term.elem (Term.static "CupEye" "LEAST_SETTING" "[I") (.int 2)).eval a s none [] s = some (.int (jI (setLo ((2 : Nat) : Int)))) := by
    have h := va_eqt (hg (.eq (.elem (Term.static "CupEye" "LEAST_SETTING" "[I") (.int 2)) (.int (1))) (by decide +kernel))
    rw [show (1 : Int32) = jI (setLo ((2 : Nat) : Int)) by decide] at h
    exact h
  have n0 : (Term.length (Term.static "CupEye" "LEAST_SETTING" "[I")).eval a s none [] s = some (.int (Int32.ofNat 3)) := va_eqt (hg (.eq (.length (Term.static "CupEye" "LEAST_SETTING" "[I")) (.int 3)) (by decide +kernel))
  obtain ⟨t0, ev0, T0⟩ := va_Tof (N := 3) (f := fun j => Value.int (jI (setLo (j : Int)))) (A := fun q : Nat => s.heap.size ≤ q) (by decide) (hg (.arrayOf (Term.static "CupEye" "LEAST_SETTING" "[I") .int) (by decide +kernel)) n0 (fun j hj => by
    rcases (show j = 0 ∨ j = 1 ∨ j = 2 by omega) with rfl | rfl | rfl
    · exact v00
    · exact v01
    · exact v02) hA
  have v10 : (Term.elem (Term.static "CupEye" "MOST_SETTING" "[I") (.int 0)).eval a s none [] s = some (.int (jI (setHi ((0 : Nat) : Int)))) := by
    have h := va_eqt (hg (.eq (.elem (Term.static "CupEye" "MOST_SETTING" "[I") (.int 0)) (.int (20))) (by decide +kernel))
    rw [show (20 : Int32) = jI (setHi ((0 : Nat) : Int)) by decide] at h
    exact h
  have v11 : (Term.elem (Term.static "CupEye" "MOST_SETTING" "[I") (.int 1)).eval a s none [] s = some (.int (jI (setHi ((1 : Nat) : Int)))) := by
    have h := va_eqt (hg (.eq (.elem (Term.static "CupEye" "MOST_SETTING" "[I") (.int 1)) (.int (9))) (by decide +kernel))
    rw [show (9 : Int32) = jI (setHi ((1 : Nat) : Int)) by decide] at h
    exact h
  have v12 : (Term.elem (Term.static "CupEye" "MOST_SETTING" "[I") (.int 2)).eval a s none [] s = some (.int (jI (setHi ((2 : Nat) : Int)))) := by
    have h := va_eqt (hg (.eq (.elem (Term.static "CupEye" "MOST_SETTING" "[I") (.int 2)) (.int (20))) (by decide +kernel))
    rw [show (20 : Int32) = jI (setHi ((2 : Nat) : Int)) by decide] at h
    exact h
  have n1 : (Term.length (Term.static "CupEye" "MOST_SETTING" "[I")).eval a s none [] s = some (.int (Int32.ofNat 3)) := va_eqt (hg (.eq (.length (Term.static "CupEye" "MOST_SETTING" "[I")) (.int 3)) (by decide +kernel))
  obtain ⟨t1, ev1, T1⟩ := va_Tof (N := 3) (f := fun j => Value.int (jI (setHi (j : Int)))) (A := fun q : Nat => s.heap.size ≤ q) (by decide) (hg (.arrayOf (Term.static "CupEye" "MOST_SETTING" "[I") .int) (by decide +kernel)) n1 (fun j hj => by
    rcases (show j = 0 ∨ j = 1 ∨ j = 2 by omega) with rfl | rfl | rfl
    · exact v10
    · exact v11
    · exact v12) hA
  exact ⟨t0, t1, va_Zof (hts (.laysStatic "CupEye" "LEAST_SETTING" "[I") (lwm3 (List.mem_of_getElem? (l := tables_1_3) (i := 28) (by decide +kernel)))) (hts (.initialized "CupEye") (lwm1 (List.mem_of_getElem? (l := tables_1_1) (i := 1) (by decide +kernel)))) ev0 hA, T0, va_Zof (hts (.laysStatic "CupEye" "MOST_SETTING" "[I") (lwm3 (List.mem_of_getElem? (l := tables_1_3) (i := 30) (by decide +kernel)))) (hts (.initialized "CupEye") (lwm1 (List.mem_of_getElem? (l := tables_1_1) (i := 1) (by decide +kernel)))) ev1 hA, T1⟩
theorem knL_X7 : jKn mL yX7_init wsX7_init rnX7_init 97 5004 := ⟨gL_law_X7_init, ⟨_, _, _, rfl, by decide⟩, by decide +kernel, ⟨rfl, rfl, by decide⟩, rfl, (inLr1 (List.mem_of_getElem? (l := wsL_law_r1) (i := 2) rfl)), (inLr1 (List.mem_of_getElem? (l := wsL_law_r1) (i := 6) rfl))⟩
def n0F : Int → Int := jU (jU (jU zF 6 1) 7 10) 8 15
theorem KInv_new : KInv 0 (fun _ => sNew) (fun _ => sNew) (fun _ => zF) zF zF zF n0F zF zF := by
  refine ⟨⟨fun _ => sNew_ok, fun _ => sNew_ok, by decide, by decide, by decide, by decide, fun i => ⟨by show (0 : Int) ≤ 0; omega, by show (0 : Int) < 1000; omega⟩⟩, sNew_inv, fun p h0 h1 => ⟨rfl, fun h => absurd h ?_, fun h => absurd h ?_, fun _ h => absurd h ?_⟩, ⟨fun l h0 h1 => ⟨?_, ?_, fun j h2 h3 => absurd h3 ?_⟩, by decide, fun j h2 h3 => absurd h3 ?_⟩, ⟨(show n0F 5 = sNew 7 0 ∧ n0F 6 = sNew 7 1 ∧ n0F 7 = sNew 7 2 ∧ sNew 7 2 ≤ 15 by decide), (show (0 ≤ n0F 8 ∧ n0F 8 ≤ 15) ∧ sNew 8 0 = n0F 8 % 2 ∧ sNew 8 1 = n0F 8 / 2 % 2 ∧ sNew 8 2 = n0F 8 / 4 % 2 ∧ sNew 8 3 = n0F 8 / 8 % 2 by decide), (show n0F 9 = sNew 9 0 by decide), fun i h0 h1 => absurd h1 ?_⟩, (show n0F 10 = sNew 9 1 ∧ n0F 11 = sNew 9 2 ∧ n0F 12 = sNew 9 3 ∧ n0F 13 = sNew 9 4 ∧ n0F 14 = sNew 9 5 ∧ n0F 15 = sNew 9 6 by decide)⟩
  · show ¬ (1 : Int) ≤ 0; omega
  · show ¬ (2 : Int) ≤ 0; omega
  · show ¬ (1 : Int) ≤ 0; omega
  · show n0F l = 0
    unfold n0F
    rw [jU_ne (by omega), jU_ne (by omega), jU_ne (by omega)]
    rfl
  · show (0 : Int) ≤ 15; omega
  · show ¬ j < 0; omega
  · show ¬ j < 0; omega
  · show ¬ i < 0; omega
theorem jFl_6 (b c d e f g : va_W) : ((((([] ++ b) ++ c) ++ d) ++ e) ++ f) ++ g = jFl [b, c, d, e, f, g] := by
  show ((((([] ++ b) ++ c) ++ d) ++ e) ++ f) ++ g = b ++ (c ++ (d ++ (e ++ (f ++ g))))
  simp only [List.nil_append, List.append_assoc]
set_option maxRecDepth 100000 in
set_option maxHeartbeats 4000000 in
/-- the law, whole -/
theorem law_all {E : jE} {p : Program} {la : Launch} {ev : Env} {st : State} {me : MethodId} {below : List Frame} {meth : Method} {cd : Code} {sa L0 : Nat} {A : Nat → Prop} {xs : Nat → Int32} (hAs : ∀ q, A q → st.heap.size ≤ q) (hX : va_X sa L0 xs st st.heap) (hbl : sa < st.heap.size) (hL0 : L0 ≤ 260) (hT2 : jT2 A st) (hO : jO st) : jG mL E (p, la, ev, st, me, #[.ref sa], below, meth, cd, A) (lw_Z below #[.ref sa] st) 0 0 0 [(0, .ref sa)] [] [] := by
  refine j_new (ci := 6) (Cn := RX7) (T := TX7) (N := 6) [.null, .null, .null, .null, .null, .int (jI 0)] 3 tyX7 tyX7_ok inlX7 (inLr1 (List.mem_of_getElem? (l := wsL_law_r1) (i := 0) rfl)) (inLr1 (List.mem_of_getElem? (l := wsL_law_r1) (i := 1) rfl)) (inLr1 (List.mem_of_getElem? (l := wsL_law_r1) (i := 2) rfl)) rfl vnX7 (Nat.le_of_ble_eq_true rfl) (Nat.le_of_ble_eq_true rfl) dL_law_0 rfl (fun q0 => ?_)
  refine j_dup 4 dL_law_3 rfl rfl ?_
  refine j_init 7 (c_X7_init E _) hO knL_X7 (inLr1 (List.mem_of_getElem? (l := wsL_law_r1) (i := 5) rfl)) (Nat.le_of_ble_eq_true rfl) ⟨(Nat.le_of_ble_eq_true rfl), (Nat.le_of_ble_eq_true rfl)⟩ dL_law_4 rfl (fun u4 => ?_)
  refine j_astore_n 8 [_, _] dL_law_7 rfl (by decide) rfl ?_
  refine j_bipush 10 dL_law_8 rfl (by decide) ?_
  refine j_newaI 48 12 rfl (Nat.le_of_ble_eq_true rfl) (inLr1 (List.mem_of_getElem? (l := wsL_law_r1) (i := 3) rfl)) (Nat.le_of_ble_eq_true rfl) (Nat.le_of_ble_eq_true rfl) dL_law_10 rfl (fun q10 => ?_)
  refine j_astore_n 13 [_, _, _] dL_law_12 rfl (by decide) rfl ?_
  refine j_bipush 15 dL_law_13 rfl (by decide) ?_
  refine j_newaI 60 17 rfl (Nat.le_of_ble_eq_true rfl) (inLr1 (List.mem_of_getElem? (l := wsL_law_r1) (i := 3) rfl)) (Nat.le_of_ble_eq_true rfl) (Nat.le_of_ble_eq_true rfl) dL_law_15 rfl (fun q15 => ?_)
  refine j_astore_n 18 [_, _, _, _] dL_law_17 rfl (by decide) rfl ?_
  refine j_bipush 20 dL_law_18 rfl (by decide) ?_
  refine j_newaI 16 22 rfl (Nat.le_of_ble_eq_true rfl) (inLr1 (List.mem_of_getElem? (l := wsL_law_r1) (i := 3) rfl)) (Nat.le_of_ble_eq_true rfl) (Nat.le_of_ble_eq_true rfl) dL_law_20 rfl (fun q20 => ?_)
  refine j_astore 24 [_, _, _, _, _] dL_law_22 rfl (by decide) rfl ?_
  refine j_bipush 26 dL_law_24 rfl (by decide) ?_
  refine j_newaI 36 28 rfl (Nat.le_of_ble_eq_true rfl) (inLr1 (List.mem_of_getElem? (l := wsL_law_r1) (i := 3) rfl)) (Nat.le_of_ble_eq_true rfl) (Nat.le_of_ble_eq_true rfl) dL_law_26 rfl (fun q26 => ?_)
  refine j_astore 30 [_, _, _, _, _, _] dL_law_28 rfl (by decide) rfl ?_
  refine j_bipush 32 dL_law_30 rfl (by decide) ?_
  refine j_newaI 64 34 rfl (Nat.le_of_ble_eq_true rfl) (inLr1 (List.mem_of_getElem? (l := wsL_law_r1) (i := 3) rfl)) (Nat.le_of_ble_eq_true rfl) (Nat.le_of_ble_eq_true rfl) dL_law_32 rfl (fun q32 => ?_)
  refine j_astore 36 [_, _, _, _, _, _, _] dL_law_34 rfl (by decide) rfl ?_
  refine j_eqw (jFl_6 _ _ _ _ _ _) ?_
  refine j_aload 2 38 dL_law_36 rfl rfl ?_
  refine j_bipush 40 dL_law_38 rfl (by decide) ?_
  refine j_iconst 41 dL_law_40 rfl ?_
  refine j_iastB 3 0 42 [_] [_, _, _, _, _, _] dL_law_41 rfl rfl rfl (by decide) (by decide) rfl rfl ?_
  refine j_aload 2 44 dL_law_42 rfl rfl ?_
  refine j_bipush 46 dL_law_44 rfl (by decide) ?_
  refine j_bipush 48 dL_law_46 rfl (by decide) ?_
  refine j_iastB 3 0 49 [_] [_, _, _, _, _, _] dL_law_48 rfl rfl rfl (by decide) (by decide) rfl rfl ?_
  refine j_aload 2 51 dL_law_49 rfl rfl ?_
  refine j_bipush 53 dL_law_51 rfl (by decide) ?_
  refine j_bipush 55 dL_law_53 rfl (by decide) ?_
  refine j_iastB 3 0 56 [_] [_, _, _, _, _, _] dL_law_55 rfl rfl rfl (by decide) (by decide) rfl rfl ?_
  refine j_iconst 57 dL_law_56 rfl ?_
  refine j_istore 59 [_, _, _, _, _, _, _, _] dL_law_57 rfl (by decide) rfl ?_
  exact law_loop hAs (by decide) hX hbl hL0 hT2 (jAe q0 u4.1) u4.2 q10 q15 q20 q26 q32 61 0 (by omega) (by omega) _ _ _ _ _ _ _ _ _ KInv_new
set_option maxRecDepth 100000 in
set_option maxHeartbeats 4000000 in
theorem whole_start {p : Program} {e : Env} {s : State} {m : MethodId} {below : List Frame} {meth : Method} {c : Code} (l : Launch) (hflags : l.flags = flags0) {b L : Nat} {xs : Nat → Int32} (hL : L ≤ 260) (C0 : lw_At p s m meth c b L xs) : W p l e room_1 s m #[Value.ref b] below meth c s.heap [] 0 0 (lw_Z below #[Value.ref b] s) (entryFrame m ([Value.ref b] : List Value).toArray 9) := by
  obtain ⟨hx, hb, hr, hml, hown, hts, hX, hbl, hlocks, hgv⟩ := id C0
  obtain ⟨E, hK⟩ := jK_at hts
  have hP : va_P E.1 vwCl [] s.heap := fun k q h => by simp at h
  have hD : va_D (fun q : Nat => s.heap.size ≤ q) [] := ⟨fun i j p q h => by simp at h, fun k q h => by simp at h⟩
  have hl := lv_entry ([.ref b]) (n := 9) (Nat.le_of_ble_eq_true rfl)
  rw [lg_entry_eq]
  exact law_all (E := E) (fun q h => h) hX hbl hL (jT2_at0 hts hgv) (jO_at hts) ⟨hx, hb, hml, hown, fun w h => hts w (wsL_law_in w h), hK, fun q h => h, hr, hlocks, jNs_at hts⟩ s.heap [] _ hP hD va_S.rf hl
