/-! the reference: its past -/
theorem jCp_gen {f g : Int → Int} {sp dp i : Int} (h : 0 ≤ i) : jU (jCp f g sp dp i) (dp + i) (f (sp + i)) = jCp f g sp dp (i + 1) := by
  funext j
  unfold jU jCp
  by_cases h1 : j = dp + i
  · subst h1
    rw [if_pos rfl, if_pos (by omega)]
    congr 1
    omega
  · rw [if_neg h1]
    by_cases h2 : dp ≤ j ∧ j < dp + i
    · rw [if_pos h2, if_pos (by omega)]
    · rw [if_neg h2, if_neg (by omega)]
theorem jCp_s0 {f g : Int → Int} {dp i : Int} (h : 0 ≤ i) : jU (jCp f g 0 dp i) (dp + i) (f i) = jCp f g 0 dp (i + 1) := by
  have := jCp_gen (f := f) (g := g) (sp := 0) (dp := dp) h
  rw [Int.zero_add] at this
  exact this
theorem jCp_d0 {f g : Int → Int} {sp i : Int} (h : 0 ≤ i) : jU (jCp f g sp 0 i) i (f (sp + i)) = jCp f g sp 0 (i + 1) := by
  have := jCp_gen (f := f) (g := g) (sp := sp) (dp := 0) h
  rw [Int.zero_add] at this
  exact this
theorem jCp_00 (f g : Int → Int) (sp dp : Int) : jCp f g sp dp 0 = g := by
  funext j
  unfold jCp
  rw [if_neg (by omega)]
theorem jCp_sh {p : Int → Int} {d i : Int} (h : 0 ≤ i) (hd : 0 ≤ d) : jU (jCp p p d 0 i) i (jCp p p d 0 i (i + d)) = jCp p p d 0 (i + 1) := by
  have e : jCp p p d 0 i (i + d) = p (d + i) := by
    unfold jCp
    rw [if_neg (by omega)]
    congr 1
    omega
  rw [e]
  exact jCp_d0 h
def pSh (F : Nat → Int → Int) : Int → Int := if F 6 1 = 4 then jCp (F 1) (F 1) 1200 0 3600 else F 1
def fCh (F : Nat → Int → Int) : Nat → Int → Int := jS (jS F 1 (jCp (F 0) (pSh F) 0 (1200 * hM (F 6 1)) 1200)) 6 (jU (F 6) 1 (hM (F 6 1) + 1))
set_option maxRecDepth 20000 in
theorem in_X8_changes_X8 : ∀ x ∈ u_ws RX8 TX8 11, x ∈ wsX8_changes := by decide +kernel
set_option maxRecDepth 100000 in
set_option maxHeartbeats 4000000 in
theorem c_X8_changes (E : jE) (q : Nat → Nat) (F : Nat → Int → Int) (hn : 0 ≤ F 6 1 ∧ F 6 1 ≤ 4) : jMV E yX8_changes wsX8_changes rmX8_changes [.ref (q 0)] (wModel E q F) (wModel E q (fCh F)) := by
  refine jMV_of (cc := cX8_changes) (maxL := 2) (ret := none) [(0, .ref (q 0))] (by decide) rfl rfl (Nat.le_of_ble_eq_true rfl) (fun C => ?_)
  show jG mX8_changes E C (jQv E C (wModel E q (fCh F))) 0 0 0 [(0, .ref (q 0))] [] (wModel E q F)
  obtain ⟨p, hp⟩ : ∃ p, p = pSh F := ⟨_, rfl⟩
  obtain ⟨m, hm⟩ : ∃ m, m = hM (F 6 1) := ⟨_, rfl⟩
  have rm := hM_rng hn
  rw [← hm] at rm
  have key49 :  jG mX8_changes E C (jQv E C (wModel E q (fCh F))) 0 0 49 [(0, .ref (q 0))] [] (wModel E q (jS (jS F 1 p) 6 (jU (F 6) 1 m))) := by
    skip
    refine j_iconst 50 dX8_changes_49 rfl ?_
    refine j_istore_n 51 [_, _] dX8_changes_50 rfl (by decide) rfl ?_
    have key51 : ∀ (fu i : Nat), 1200 < i + fu → (i : Int) ≤ 1200 → jG mX8_changes E C (jQv E C (wModel E q (fCh F))) 0 0 51 [(0, .ref (q 0)), (1, .int (jI (i : Int)))] [] (wModel E q (jS (jS F 1 (jCp (F 0) p 0 (1200 * m) (i : Int))) 6 (jU (F 6) 1 m))) := by
      intro fu
      induction fu with
      | zero => intro i h1 h2; exact absurd h1 (by omega)
      | succ fu ih =>
        intro i h1 h2
        refine j_iload_n 1 52 dX8_changes_51 rfl rfl ?_
        refine j_sipush 55 dX8_changes_52 rfl (by decide) ?_
        refine j_icmp_ge 85 58 dX8_changes_55 rfl (by decide) (by omega) (by omega) (fun h_55 => ?_) (fun h_55 => ?_)
        · skip
          obtain rfl : i = 1200 := by omega
          refine j_aload_n 0 86 dX8_changes_85 rfl rfl ?_
          refine j_dup 87 dX8_changes_86 rfl rfl ?_
          refine j_get 0 5 1 90 in_X8_changes_X8 dX8_changes_87 rfl rfl rfl (by decide) rfl rfl ?_
          refine j_iconst 91 dX8_changes_90 rfl ?_
          refine j_iadd 92 dX8_changes_91 rfl ?_
          refine j_put 0 5 1 95 [(_, .inr (_, [_, _, _, _, _, _, _, _, _, _, _])), _, _, _, _, _, _] tyX8 tyX8_ok nmX8 in_X8_changes_X8 dX8_changes_92 rfl rfl rfl (by decide) rfl rfl rfl rfl rfl (Nat.le_of_ble_eq_true rfl) rfl ?_
          exact j_vret dX8_changes_95 rfl (by rw [show fCh F = jS (jS F 1 (jCp (F 0) p 0 (1200 * m) 1200)) 6 (jU (F 6) 1 (m + 1)) by rw [hp, hm]; rfl]; rfl)
        · skip
          refine j_aload_n 0 59 dX8_changes_58 rfl rfl ?_
          refine j_get 0 1 2 62 in_X8_changes_X8 dX8_changes_59 rfl rfl rfl (by decide) rfl rfl ?_
          refine j_sipush 65 dX8_changes_62 rfl (by decide) ?_
          refine j_aload_n 0 66 dX8_changes_65 rfl rfl ?_
          refine j_get 0 5 1 69 in_X8_changes_X8 dX8_changes_66 rfl rfl rfl (by decide) rfl rfl ?_
          change jG _ E C _ 0 0 69 _ (.int (jI m) :: .int (jI 1200) :: _) _
          refine j_imul 70 dX8_changes_69 rfl ?_
          refine j_iload_n 1 71 dX8_changes_70 rfl rfl ?_
          refine j_iadd 72 dX8_changes_71 rfl ?_
          refine j_aload_n 0 73 dX8_changes_72 rfl rfl ?_
          refine j_get 0 0 3 76 in_X8_changes_X8 dX8_changes_73 rfl rfl rfl (by decide) rfl rfl ?_
          refine j_iload_n 1 77 dX8_changes_76 rfl rfl ?_
          refine j_iald 1 78 dX8_changes_77 rfl rfl (by decide) (by omega) ?_
          refine j_iast 2 79 [_, _, _, _, _, _, _] dX8_changes_78 rfl rfl (by decide) (by omega) rfl ?_
          refine j_iinc 1 82 [_, _] dX8_changes_79 rfl rfl (by decide) rfl ?_
          refine j_goto 51 dX8_changes_82 (by decide) ?_
          refine j_perm [1, 0] rfl ?_
          refine j_eqw (w' := wModel E q (jS (jS F 1 (jCp (F 0) p 0 (1200 * m) ((i + 1 : Nat) : Int))) 6 (jU (F 6) 1 m))) (congrArg (fun g => wModel E q (jS (jS F 1 g) 6 (jU (F 6) 1 m))) (jCp_s0 (f := F 0) (g := p) (dp := 1200 * m) (i := (i : Int)) (by omega))) ?_
          exact ih (i + 1) (by omega) (by omega)
    refine j_perm [1, 0] rfl ?_
    refine j_eqw (w' := wModel E q (jS (jS F 1 (jCp (F 0) p 0 (1200 * m) 0)) 6 (jU (F 6) 1 m))) (congrArg (fun g => wModel E q (jS (jS F 1 g) 6 (jU (F 6) 1 m))) (jCp_00 (F 0) p 0 (1200 * m)).symm) ?_
    exact key51 1201 0 (by omega) (by omega)
  refine j_aload_n 0 1 dX8_changes_0 rfl rfl ?_
  refine j_get 0 5 1 4 in_X8_changes_X8 dX8_changes_1 rfl rfl rfl (by decide) rfl rfl ?_
  refine j_iconst 5 dX8_changes_4 rfl ?_
  refine j_icmp_ne 49 8 dX8_changes_5 rfl (by decide) (by omega) (by omega) (fun h_5 => ?_) (fun h_5 => ?_)
  · skip
    have eM : m = F 6 1 := by rw [hm]; exact if_neg (by omega)
    have eP : p = F 1 := by rw [hp]; exact if_neg (by omega)
    rw [eM, eP] at key49
    exact key49
  · skip
    refine j_iconst 9 dX8_changes_8 rfl ?_
    refine j_istore_n 10 [_, _] dX8_changes_9 rfl (by decide) rfl ?_
    have key10 : ∀ (fu i : Nat), 3600 < i + fu → (i : Int) ≤ 3600 → jG mX8_changes E C (jQv E C (wModel E q (fCh F))) 0 0 10 [(0, .ref (q 0)), (1, .int (jI (i : Int)))] [] (wModel E q (jS F 1 (jCp (F 1) (F 1) 1200 0 (i : Int)))) := by
      intro fu
      induction fu with
      | zero => intro i h1 h2; exact absurd h1 (by omega)
      | succ fu ih =>
        intro i h1 h2
        refine j_iload_n 1 11 dX8_changes_10 rfl rfl ?_
        refine j_sipush 14 dX8_changes_11 rfl (by decide) ?_
        refine j_icmp_ge 39 17 dX8_changes_14 rfl (by decide) (by omega) (by omega) (fun h_14 => ?_) (fun h_14 => ?_)
        · skip
          obtain rfl : i = 3600 := by omega
          have eM : m = F 6 1 - 1 := by rw [hm]; exact if_pos (by omega)
          have eP : p = jCp (F 1) (F 1) 1200 0 3600 := by rw [hp]; exact if_pos (by omega)
          refine j_aload_n 0 40 dX8_changes_39 rfl rfl ?_
          refine j_dup 41 dX8_changes_40 rfl rfl ?_
          refine j_get 0 5 1 44 in_X8_changes_X8 dX8_changes_41 rfl rfl rfl (by decide) rfl rfl ?_
          refine j_iconst 45 dX8_changes_44 rfl ?_
          refine j_isub 46 dX8_changes_45 rfl ?_
          refine j_put 0 5 1 49 [(_, .inr (_, [_, _, _, _, _, _, _, _, _, _, _])), _, _, _, _, _, _] tyX8 tyX8_ok nmX8 in_X8_changes_X8 dX8_changes_46 rfl rfl rfl (by decide) rfl rfl rfl rfl rfl (Nat.le_of_ble_eq_true rfl) rfl ?_
          refine j_perm [0] rfl ?_
          rw [eM, eP] at key49
          exact key49
        · skip
          refine j_aload_n 0 18 dX8_changes_17 rfl rfl ?_
          refine j_get 0 1 2 21 in_X8_changes_X8 dX8_changes_18 rfl rfl rfl (by decide) rfl rfl ?_
          refine j_iload_n 1 22 dX8_changes_21 rfl rfl ?_
          refine j_aload_n 0 23 dX8_changes_22 rfl rfl ?_
          refine j_get 0 1 2 26 in_X8_changes_X8 dX8_changes_23 rfl rfl rfl (by decide) rfl rfl ?_
          refine j_iload_n 1 27 dX8_changes_26 rfl rfl ?_
          refine j_sipush 30 dX8_changes_27 rfl (by decide) ?_
          refine j_iadd 31 dX8_changes_30 rfl ?_
          refine j_iald 2 32 dX8_changes_31 rfl rfl (by decide) (by omega) ?_
          refine j_iast 2 33 [_, _, _, _, _, _, _] dX8_changes_32 rfl rfl (by decide) (by omega) rfl ?_
          refine j_iinc 1 36 [_, _] dX8_changes_33 rfl rfl (by decide) rfl ?_
          refine j_goto 10 dX8_changes_36 (by decide) ?_
          refine j_perm [1, 0] rfl ?_
          refine j_eqw (w' := wModel E q (jS F 1 (jCp (F 1) (F 1) 1200 0 ((i + 1 : Nat) : Int)))) (congrArg (fun g => wModel E q (jS F 1 g)) (jCp_sh (p := F 1) (d := 1200) (i := (i : Int)) (by omega) (by omega))) ?_
          exact ih (i + 1) (by omega) (by omega)
    refine j_perm [1, 0] rfl ?_
    refine j_eqw (w' := wModel E q (jS F 1 (jCp (F 1) (F 1) 1200 0 0))) (congrArg (fun g => wModel E q (jS F 1 g)) (jCp_00 (F 1) (F 1) 1200 0).symm) ?_
    exact key10 3601 0 (by omega) (by omega)
set_option maxRecDepth 20000 in
theorem in_X8_putsAside_X8 : ∀ x ∈ u_ws RX8 TX8 11, x ∈ wsX8_putsAside := by decide +kernel
set_option maxRecDepth 100000 in
set_option maxHeartbeats 4000000 in
theorem c_X8_putsAside (E : jE) (q : Nat → Nat) (F : Nat → Int → Int)  : jMV E yX8_putsAside wsX8_putsAside rmX8_putsAside [.ref (q 0)] (wModel E q F) (wModel E q (jS F 3 (jCp (F 0) (F 3) 0 0 1200))) := by
  refine jMV_of (cc := cX8_putsAside) (maxL := 2) (ret := none) [(0, .ref (q 0))] (by decide) rfl rfl (Nat.le_of_ble_eq_true rfl) (fun C => ?_)
  show jG mX8_putsAside E C (jQv E C (wModel E q (jS F 3 (jCp (F 0) (F 3) 0 0 1200)))) 0 0 0 [(0, .ref (q 0))] [] (wModel E q F)
  refine j_iconst 1 dX8_putsAside_0 rfl ?_
  refine j_istore_n 2 [_, _] dX8_putsAside_1 rfl (by decide) rfl ?_
  have key2 : ∀ (fu i : Nat), 1200 < i + fu → (i : Int) ≤ 1200 → jG mX8_putsAside E C (jQv E C (wModel E q (jS F 3 (jCp (F 0) (F 3) 0 0 1200)))) 0 0 2 [(0, .ref (q 0)), (1, .int (jI (i : Int)))] [] (wModel E q (jS F 3 (jCp (F 0) (F 3) 0 0 (i : Int)))) := by
    intro fu
    induction fu with
    | zero => intro i h1 h2; exact absurd h1 (by omega)
    | succ fu ih =>
      intro i h1 h2
      refine j_iload_n 1 3 dX8_putsAside_2 rfl rfl ?_
      refine j_sipush 6 dX8_putsAside_3 rfl (by decide) ?_
      refine j_icmp_ge 27 9 dX8_putsAside_6 rfl (by decide) (by omega) (by omega) (fun h_6 => ?_) (fun h_6 => ?_)
      · skip
        obtain rfl : i = 1200 := by omega
        exact j_vret dX8_putsAside_27 rfl (by rfl)
      · skip
        refine j_aload_n 0 10 dX8_putsAside_9 rfl rfl ?_
        refine j_get 0 3 1 13 in_X8_putsAside_X8 dX8_putsAside_10 rfl rfl rfl (by decide) rfl rfl ?_
        refine j_iload_n 1 14 dX8_putsAside_13 rfl rfl ?_
        refine j_aload_n 0 15 dX8_putsAside_14 rfl rfl ?_
        refine j_get 0 0 2 18 in_X8_putsAside_X8 dX8_putsAside_15 rfl rfl rfl (by decide) rfl rfl ?_
        refine j_iload_n 1 19 dX8_putsAside_18 rfl rfl ?_
        refine j_iald 1 20 dX8_putsAside_19 rfl rfl (by decide) (by omega) ?_
        refine j_iast 4 21 [_, _, _, _, _, _, _] dX8_putsAside_20 rfl rfl (by decide) (by omega) rfl ?_
        refine j_iinc 1 24 [_, _] dX8_putsAside_21 rfl rfl (by decide) rfl ?_
        refine j_goto 2 dX8_putsAside_24 (by decide) ?_
        refine j_perm [1, 0] rfl ?_
        refine j_eqw (w' := wModel E q (jS F 3 (jCp (F 0) (F 3) 0 0 ((i + 1 : Nat) : Int)))) (congrArg (fun g => wModel E q (jS F 3 g)) (jCp_step (f := F 0) (g := F 3) (i := (i : Int)) (by omega))) ?_
        exact ih (i + 1) (by omega) (by omega)
  refine j_perm [1, 0] rfl ?_
  refine j_eqw (w' := wModel E q (jS F 3 (jCp (F 0) (F 3) 0 0 0))) (congrArg (fun g => wModel E q (jS F 3 g)) (jCp_00 (F 0) (F 3) 0 0).symm) ?_
  exact key2 1201 0 (by omega) (by omega)
set_option maxRecDepth 20000 in
theorem in_X8_putsBack_X8 : ∀ x ∈ u_ws RX8 TX8 11, x ∈ wsX8_putsBack := by decide +kernel
set_option maxRecDepth 100000 in
set_option maxHeartbeats 4000000 in
theorem c_X8_putsBack (E : jE) (q : Nat → Nat) (F : Nat → Int → Int)  : jMV E yX8_putsBack wsX8_putsBack rmX8_putsBack [.ref (q 0)] (wModel E q F) (wModel E q (jS F 0 (jCp (F 3) (F 0) 0 0 1200))) := by
  refine jMV_of (cc := cX8_putsBack) (maxL := 2) (ret := none) [(0, .ref (q 0))] (by decide) rfl rfl (Nat.le_of_ble_eq_true rfl) (fun C => ?_)
  show jG mX8_putsBack E C (jQv E C (wModel E q (jS F 0 (jCp (F 3) (F 0) 0 0 1200)))) 0 0 0 [(0, .ref (q 0))] [] (wModel E q F)
  refine j_iconst 1 dX8_putsBack_0 rfl ?_
  refine j_istore_n 2 [_, _] dX8_putsBack_1 rfl (by decide) rfl ?_
  have key2 : ∀ (fu i : Nat), 1200 < i + fu → (i : Int) ≤ 1200 → jG mX8_putsBack E C (jQv E C (wModel E q (jS F 0 (jCp (F 3) (F 0) 0 0 1200)))) 0 0 2 [(0, .ref (q 0)), (1, .int (jI (i : Int)))] [] (wModel E q (jS F 0 (jCp (F 3) (F 0) 0 0 (i : Int)))) := by
    intro fu
    induction fu with
    | zero => intro i h1 h2; exact absurd h1 (by omega)
    | succ fu ih =>
      intro i h1 h2
      refine j_iload_n 1 3 dX8_putsBack_2 rfl rfl ?_
      refine j_sipush 6 dX8_putsBack_3 rfl (by decide) ?_
      refine j_icmp_ge 27 9 dX8_putsBack_6 rfl (by decide) (by omega) (by omega) (fun h_6 => ?_) (fun h_6 => ?_)
      · skip
        obtain rfl : i = 1200 := by omega
        exact j_vret dX8_putsBack_27 rfl (by rfl)
      · skip
        refine j_aload_n 0 10 dX8_putsBack_9 rfl rfl ?_
        refine j_get 0 0 1 13 in_X8_putsBack_X8 dX8_putsBack_10 rfl rfl rfl (by decide) rfl rfl ?_
        refine j_iload_n 1 14 dX8_putsBack_13 rfl rfl ?_
        refine j_aload_n 0 15 dX8_putsBack_14 rfl rfl ?_
        refine j_get 0 3 2 18 in_X8_putsBack_X8 dX8_putsBack_15 rfl rfl rfl (by decide) rfl rfl ?_
        refine j_iload_n 1 19 dX8_putsBack_18 rfl rfl ?_
        refine j_iald 4 20 dX8_putsBack_19 rfl rfl (by decide) (by omega) ?_
        refine j_iast 1 21 [_, _, _, _, _, _, _] dX8_putsBack_20 rfl rfl (by decide) (by omega) rfl ?_
        refine j_iinc 1 24 [_, _] dX8_putsBack_21 rfl rfl (by decide) rfl ?_
        refine j_goto 2 dX8_putsBack_24 (by decide) ?_
        refine j_perm [1, 0] rfl ?_
        refine j_eqw (w' := wModel E q (jS F 0 (jCp (F 3) (F 0) 0 0 ((i + 1 : Nat) : Int)))) (congrArg (fun g => wModel E q (jS F 0 g)) (jCp_step (f := F 3) (g := F 0) (i := (i : Int)) (by omega))) ?_
        exact ih (i + 1) (by omega) (by omega)
  refine j_perm [1, 0] rfl ?_
  refine j_eqw (w' := wModel E q (jS F 0 (jCp (F 3) (F 0) 0 0 0))) (congrArg (fun g => wModel E q (jS F 0 g)) (jCp_00 (F 3) (F 0) 0 0).symm) ?_
  exact key2 1201 0 (by omega) (by omega)
