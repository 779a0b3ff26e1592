/-! THE CLAIM OUT OF ONE WALK OF THE LAW'S BODY. Your part is whole_start (and what it stands on); all else here is the same for every law, but numbers. -/
def R_law : String := "CupEyeLaw"
def lw_P (b : Addr) (xs : List Int32) (args : Array Value) (s : State) : Prop := args = #[.ref b] ∧ s.IntsAt b xs ∧ xs.length ≤ 260 ∧ (Jvm.Cond.and given_1 narrow_1).before args s = true
/-- what a walk over the start with the record d0 says of its end, said of the start itself -/
theorem lw_closed {s t : State} {o : Outcome} {d0 : Drawn} {L : List Loc} {k n : Nat} (hd0 : s.drawn.sameBut d0 lw_cs) (hv : ∃ v, o = .returned v) (hW : (s.setDrawn d0).WarmedH t.vm) (hs : (s.setDrawn d0).sameButNew ({ t with vm := s.vm } : State) L k n) : State.butDraws s t lw_cs (fun t1 => Framed s o t1 L k n) := by
  have h2 : t.drawn = d0 := congrArg State.drawn hs.1
  refine ⟨⟨hv, hW, State.sameButNew.setDrawn hs s.drawn⟩, ?_, by decide⟩
  rw [h2]
  exact hd0
def lw_Q (_ : Array Value) (s : State) (o : Outcome) (t : State) : Prop := o = .returned (some (.int 1)) ∧ State.butDraws s t lw_cs (fun t1 => Framed s o t1 [] 600000 7302250)
def lw_Z (below : List Frame) (a : Array Value) (s : State) : State → Prop := fun t => ∃ o, t.status = .running ∧ Ended t below o ∧ lw_Q a s o t
/-- the law's own end, with 1 on the stack, nothing written that was there before, its room as the claim has it; d0: the record of draws at this point (at the entry s.drawn: begin with 'refine W.base ?_' and 'have hd0 := Drawn.sameBut.refl s.drawn lw_cs') -/
theorem lw_ret {p : Program} {l : Launch} {e : Env} {s : State} {m : MethodId} {below : List Frame} {meth : Method} {c : Code} {b : Nat} {d0 : Drawn} (hd0 : s.drawn.sameBut d0 lw_cs) (hx : p.tables.exec = Jvm.exec) (hb : c.code = code) (hr : meth.sig.returnType = ret) (hlocks : meth.locks = false) {pc : Nat} {H : Heap} {ls : Array Slot} (hdg : decode code pc = .ok (.ireturn, 1)) : W p l e room_1 (s.setDrawn d0) m #[Value.ref b] below meth c H [] 600000 7302250 (lw_Z below #[Value.ref b] s) (F0 m pc ls [.int 1]) := by
  intro T hT X
  obtain ⟨fs, hret, hrun, hended, hW, hframe⟩ := X.leave (v := some (.int 1)) (hlocks := hlocks) (fun h => by rw [hr] at h; cases h)
  have hmeth' : T.vm.method? m = some meth := X.method'
  refine ⟨T.setFrames fs, ?_, .returned (some (.int 1)), hrun, hended, rfl, lw_closed hd0 ⟨_, rfl⟩ hW hframe⟩
  jvm_step X.here [X.here.top, hx, hb, hdg, hmeth', hr, ret, narrow_b1]
  (try refine ⟨rfl, ?_⟩); (try refine ⟨rfl, ?_⟩)
  first | (intro acts; rw [hret _ acts rfl rfl rfl]) | rw [hret _ _ rfl rfl rfl]
  exact Steps.refl _
/-- what holds at the law's entry: the machine, the code, the tables' words (any of lw_tbl by 'hts w (by decide +kernel)'), the script of L ints xs at the cell b, what the Statement gives of the start (any of its parts by flat_of_before) -/
def lw_At (p : Program) (s : State) (m : MethodId) (meth : Method) (c : Code) (b L : Nat) (xs : Nat → Int32) : Prop :=
  p.tables.exec = Jvm.exec ∧ c.code = code ∧ meth.sig.returnType = ret ∧ c.maxLocals = 9 ∧ s.vm.findClass R_law = some m.cls ∧ (∀ w ∈ lw_tbl, w.before #[Value.ref b] s = true) ∧ va_X b L xs s s.heap ∧ b < s.heap.size ∧ meth.locks = false ∧ (Jvm.Cond.and given_1 narrow_1).before #[Value.ref b] s = true
/-- the law's end -/
theorem j_lret {E : jE} {p : Program} {la : Launch} {ev : Env} {st : State} {me : MethodId} {below : List Frame} {meth : Method} {cd : Code} {sa kc ns : Nat} {A : Nat → Prop} {L : List (Nat × Value)} {w : va_W} (hAs : ∀ q, A q → st.heap.size ≤ q) (hk : kc ≤ 600000 ∧ ns ≤ 7302250) : jG mL E (p, la, ev, st, me, #[.ref sa], below, meth, cd, A) (lw_Z below #[.ref sa] st) kc ns 169 L [.int (jI 1)] w := by
  intro hF H locs ls hP hD hS hl
  show W p la ev room_1 st me #[.ref sa] below meth cd H locs kc ns (lw_Z below #[.ref sa] st) (F0 me 169 ls [.int (jI 1)])
  have e1 : jI 1 = 1 := by decide
  rw [e1]
  refine va_forget (fun q hq => hAs _ (hS.2.2 q hq)) ?_
  refine W.widen hk.1 hk.2 ?_
  refine W.base ?_
  exact lw_ret (Drawn.sameBut.refl st.drawn lw_cs) hF.1 hF.2.1 hF.2.2.2.2.2.2.2.1 hF.2.2.2.2.2.2.2.2.1 dL_law_169
theorem kL_law_L_cell : jKs mL 95 yL_cell wsL_cell rmL_cell 2 := ⟨gL_law_L_cell, ⟨_, _, _, _, rfl, by decide⟩, by decide +kernel, rfl, rfl, by decide⟩
theorem kL_law_L_isActed : jKs mL 98 yL_isActed wsL_isActed rmL_isActed 8 := ⟨gL_law_L_isActed, ⟨_, _, _, _, rfl, by decide⟩, by decide +kernel, rfl, rfl, by decide⟩
theorem kL_law_L_isBelt : jKs mL 102 yL_isBelt wsL_isBelt rmL_isBelt 4 := ⟨gL_law_L_isBelt, ⟨_, _, _, _, rfl, by decide⟩, by decide +kernel, rfl, rfl, by decide⟩
theorem kL_law_L_areBoxes : jKs mL 106 yL_areBoxes wsL_areBoxes rmL_areBoxes 5 := ⟨gL_law_L_areBoxes, ⟨_, _, _, _, rfl, by decide⟩, by decide +kernel, rfl, rfl, by decide⟩
theorem kL_law_L_areTold : jKs mL 110 yL_areTold wsL_areTold rmL_areTold 4 := ⟨gL_law_L_areTold, ⟨_, _, _, _, rfl, by decide⟩, by decide +kernel, rfl, rfl, by decide⟩
set_option maxRecDepth 100000 in
set_option maxHeartbeats 4000000 in
/-- the law's loop: at its head, i acts done, both sides alike -/
theorem law_loop {E : jE} {p : Program} {la : Launch} {ev : Env} {st : State} {me : MethodId} {below : List Frame} {meth : Method} {cd : Code} {sa L0 kc ns : Nat} {A : Nat → Prop} {xs : Nat → Int32} (hAs : ∀ q, A q → st.heap.size ≤ q) (hcap : kc ≤ 600000 ∧ ns ≤ 7302250) (hX : va_X sa L0 xs st st.heap) (hbl : sa < st.heap.size) (hL0 : L0 ≤ 260) (hT2 : jT2 A st) (ad qh : Nat → Nat → Nat) (ca ba na ua ea : Nat) : ∀ (r : Nat) (i : Int), 60 < i + r → 0 ≤ i ∧ i ≤ 60 → ∀ (S H : Nat → Nat → Int → Int) (P : Nat → Int → Int) (v c b n u e : Int → Int), KInv i S H P v c b n u e → jG mL E (p, la, ev, st, me, #[.ref sa], below, meth, cd, A) (lw_Z below #[.ref sa] st) kc ns 59 [(7, .int (jI i)), (6, .ref ea), (5, .ref ua), (4, .ref na), (3, .ref ba), (2, .ref ca), (1, .ref (ad 7 0)), (0, .ref sa)] [] (jFl [wEye E ad qh S H P v, wA E ca 48 c, wA E ba 60 b, wA E na 16 n, wA E ua 36 u, wA E ea 64 e]) := by
  have hbA : ¬ A sa := fun z => absurd (hAs sa z) (Nat.not_le.mpr hbl)
  intro r
  induction r with
  | zero => intro i h1 h2; exact absurd h1 (by omega)
  | succ r ih =>
    intro i h1 h2 S H P v c b n u e hk
    refine j_iload 0 61 dL_law_59 rfl rfl ?_
    refine j_bipush 63 dL_law_61 rfl (by decide) ?_
    refine j_icmp_ge 168 66 dL_law_63 rfl (by decide) (by omega) (by omega) (fun h_63 => ?_) (fun h_63 => ?_)
    · refine j_iconst 169 dL_law_168 rfl ?_
      exact j_lret hAs hcap
    · skip
      refine j_aload_n 7 67 dL_law_66 rfl rfl ?_
      refine j_iload 0 69 dL_law_67 rfl rfl ?_
      refine j_callSxB (wcs := []) (Bs := (fun _ => [])) [] 72 (fun u => [_, _, _, _, _, _]) (jXs_ok _ _ _) (show jXs sa L0 xs A st from And.intro hX (And.intro hbl hbA)) (c_L_cell E _ _ _ _ (by exact hL0) (by omega)) rfl (fun _ => rfl) rfl kL_law_L_cell rfl rfl (fun _ => rfl) (fun _ => rfl) (Nat.le_of_ble_eq_true rfl) hcap dL_law_69 rfl (fun uq hu => ?_)
      change jG mL E (p, la, ev, st, me, #[.ref sa], below, meth, cd, A) (lw_Z below #[.ref sa] st) kc ns 72 _ (.int (jI uq) :: _) _
      refine j_ldc (x := 2147483647) 74 (List.mem_of_getElem? (i := 4) rfl) (by decide) dL_law_72 rfl ?_
      refine j_mask 75 dL_law_74 rfl (fun z hz => ?_)
      refine j_istore 77 [_, _, _, _, _, _, _, _, _] dL_law_75 rfl (by decide) rfl ?_
      refine j_aload_n 7 78 dL_law_77 rfl rfl ?_
      refine j_aload_n 6 79 dL_law_78 rfl rfl ?_
      refine j_aload_n 5 80 dL_law_79 rfl rfl ?_
      refine j_aload 4 82 dL_law_80 rfl rfl ?_
      refine j_aload 3 84 dL_law_82 rfl rfl ?_
      refine j_aload 2 86 dL_law_84 rfl rfl ?_
      refine j_iload 1 88 dL_law_86 rfl rfl ?_
      refine j_bipush 90 dL_law_88 rfl (by decide) ?_
      refine j_icmp_ge 103 93 dL_law_90 rfl (by decide) (by omega) (by omega) (fun h_90 => ?_) (fun h_90 => ?_)
      · skip
        refine j_iload 0 105 dL_law_103 rfl rfl ?_
        refine j_bipush 107 dL_law_105 rfl (by decide) ?_
        refine j_irem 108 dL_law_107 rfl (by omega) (by decide) ?_
        refine j_iload 0 110 dL_law_108 rfl rfl ?_
        refine j_bipush 112 dL_law_110 rfl (by decide) ?_
        refine j_idiv 113 dL_law_112 rfl (by omega) (by decide) ?_
        refine j_callSxB (wcs := [_, _, _, _, _, _]) (Bs := (fun q => [wEyeC E ad qh q.1, wA E ca 48 q.2.1, wA E ba 60 q.2.2.1, wA E na 16 q.2.2.2.1, wA E ua 36 q.2.2.2.2.1, wA E ea 64 q.2.2.2.2.2])) [0, 1, 2, 3, 4, 5] 116 (fun u => [_, _, _, _, _, _]) jT2_ok hT2 (c_L_isActed E _ _ _ _ _ _ _ _ _ _ _ _ _ _ _ _ _ _ _ (by exact hk) (by omega) (by omega) (by omega)) rfl (fun _ => rfl) rfl kL_law_L_isActed rfl rfl (fun _ => rfl) (fun _ => rfl) (Nat.le_of_ble_eq_true rfl) hcap dL_law_113 rfl (fun uq hu => ?_)
        obtain ⟨⟨S1, H1, P1, v1⟩, c1, b1, n1, u1, e1⟩ := uq
        have k1 : KInv (i + 1) S1 H1 P1 v1 c1 b1 n1 u1 e1 := hu
        change jG mL E (p, la, ev, st, me, #[.ref sa], below, meth, cd, A) (lw_Z below #[.ref sa] st) kc ns 116 _ (.int (jI 1) :: _) (jFl [wEye E ad qh S1 H1 P1 v1, wA E ca 48 c1, wA E ba 60 b1, wA E na 16 n1, wA E ua 36 u1, wA E ea 64 e1])
        refine j_if_eq 160 119 dL_law_116 rfl (by decide) (by decide) (fun h => absurd h (by decide)) (fun _ => ?_)
        refine j_aload_n 7 120 dL_law_119 rfl rfl ?_
        refine j_aload_n 6 121 dL_law_120 rfl rfl ?_
        refine j_aload 4 123 dL_law_121 rfl rfl ?_
        refine j_aload 3 125 dL_law_123 rfl rfl ?_
        refine j_callSiB (wcs := [_, _, _, _]) (cs := [_, _, _, _]) [0, 1, 3, 4] 128 [_, _, _, _, _, _] (c_L_isBelt E ad qh S1 H1 P1 v1 _ _ _ (i + 1) c1 b1 n1 u1 e1 (by exact k1.1) (by exact k1.2.1) (by omega) (by exact k1.2.2)) rfl rfl rfl kL_law_L_isBelt rfl rfl rfl rfl (Nat.le_of_ble_eq_true rfl) hcap dL_law_125 rfl ?_
        refine j_if_eq 160 131 dL_law_128 rfl (by decide) (by decide) (fun h => absurd h (by decide)) (fun _ => ?_)
        refine j_aload_n 7 132 dL_law_131 rfl rfl ?_
        refine j_aload_n 5 133 dL_law_132 rfl rfl ?_
        refine j_aload 4 135 dL_law_133 rfl rfl ?_
        refine j_aload 3 137 dL_law_135 rfl rfl ?_
        refine j_aload 2 139 dL_law_137 rfl rfl ?_
        refine j_callSiB (wcs := [_, _, _, _, _]) (cs := [_, _, _, _, _]) [0, 2, 3, 4, 5] 142 [_, _, _, _, _, _] (c_L_areBoxes E ad qh S1 H1 P1 v1 _ _ _ _ (i + 1) c1 b1 n1 u1 e1 (by exact k1.1) (by exact k1.2.1) (by omega) (by exact k1.2.2)) rfl rfl rfl kL_law_L_areBoxes rfl rfl rfl rfl (Nat.le_of_ble_eq_true rfl) hcap dL_law_139 rfl ?_
        refine j_if_eq 160 145 dL_law_142 rfl (by decide) (by decide) (fun h => absurd h (by decide)) (fun _ => ?_)
        refine j_aload_n 7 146 dL_law_145 rfl rfl ?_
        refine j_aload 4 148 dL_law_146 rfl rfl ?_
        refine j_aload 3 150 dL_law_148 rfl rfl ?_
        refine j_iload 0 152 dL_law_150 rfl rfl ?_
        refine j_iconst 153 dL_law_152 rfl ?_
        refine j_idiv 154 dL_law_153 rfl (by omega) (by decide) ?_
        refine j_callSiB (wcs := [_, _, _]) (cs := [_, _, _]) [0, 3, 4] 157 [_, _, _, _, _, _] (c_L_areTold E ad qh S1 H1 P1 v1 _ _ (i + 1) c1 b1 n1 u1 e1 _ (by exact k1.1) (by exact k1.2.1) (by omega) (by exact k1.2.2) (by omega)) rfl rfl rfl kL_law_L_areTold rfl rfl rfl rfl (Nat.le_of_ble_eq_true rfl) hcap dL_law_154 rfl ?_
        refine j_if_ne 162 160 dL_law_157 rfl (by decide) (by decide) (fun _ => ?_) (fun h => absurd h (by decide))
        refine j_iinc 1 165 [_, _, _, _, _, _, _, _, _] dL_law_162 rfl rfl (by decide) rfl ?_
        refine j_goto 59 dL_law_165 (by decide) ?_
        refine j_perm [0, 2, 3, 4, 5, 6, 7, 8] rfl ?_
        exact ih (i + 1) (by omega) (by omega) _ _ _ _ _ _ _ _ _ k1
      · skip
        refine j_bipush 95 dL_law_93 rfl (by decide) ?_
        refine j_iload 0 97 dL_law_95 rfl rfl ?_
        refine j_iconst 98 dL_law_97 rfl ?_
        refine j_irem 99 dL_law_98 rfl (by omega) (by decide) ?_
        refine j_iadd 100 dL_law_99 rfl ?_
        refine j_goto 108 dL_law_100 (by decide) ?_
        refine j_iload 0 110 dL_law_108 rfl rfl ?_
        refine j_bipush 112 dL_law_110 rfl (by decide) ?_
        refine j_idiv 113 dL_law_112 rfl (by omega) (by decide) ?_
        refine j_callSxB (wcs := [_, _, _, _, _, _]) (Bs := (fun q => [wEyeC E ad qh q.1, wA E ca 48 q.2.1, wA E ba 60 q.2.2.1, wA E na 16 q.2.2.2.1, wA E ua 36 q.2.2.2.2.1, wA E ea 64 q.2.2.2.2.2])) [0, 1, 2, 3, 4, 5] 116 (fun u => [_, _, _, _, _, _]) jT2_ok hT2 (c_L_isActed E _ _ _ _ _ _ _ _ _ _ _ _ _ _ _ _ _ _ _ (by exact hk) (by omega) (by omega) (by omega)) rfl (fun _ => rfl) rfl kL_law_L_isActed rfl rfl (fun _ => rfl) (fun _ => rfl) (Nat.le_of_ble_eq_true rfl) hcap dL_law_113 rfl (fun uq hu => ?_)
        obtain ⟨⟨S1, H1, P1, v1⟩, c1, b1, n1, u1, e1⟩ := uq
        have k1 : KInv (i + 1) S1 H1 P1 v1 c1 b1 n1 u1 e1 := hu
        change jG mL E (p, la, ev, st, me, #[.ref sa], below, meth, cd, A) (lw_Z below #[.ref sa] st) kc ns 116 _ (.int (jI 1) :: _) (jFl [wEye E ad qh S1 H1 P1 v1, wA E ca 48 c1, wA E ba 60 b1, wA E na 16 n1, wA E ua 36 u1, wA E ea 64 e1])
        refine j_if_eq 160 119 dL_law_116 rfl (by decide) (by decide) (fun h => absurd h (by decide)) (fun _ => ?_)
        refine j_aload_n 7 120 dL_law_119 rfl rfl ?_
        refine j_aload_n 6 121 dL_law_120 rfl rfl ?_
        refine j_aload 4 123 dL_law_121 rfl rfl ?_
        refine j_aload 3 125 dL_law_123 rfl rfl ?_
        refine j_callSiB (wcs := [_, _, _, _]) (cs := [_, _, _, _]) [0, 1, 3, 4] 128 [_, _, _, _, _, _] (c_L_isBelt E ad qh S1 H1 P1 v1 _ _ _ (i + 1) c1 b1 n1 u1 e1 (by exact k1.1) (by exact k1.2.1) (by omega) (by exact k1.2.2)) rfl rfl rfl kL_law_L_isBelt rfl rfl rfl rfl (Nat.le_of_ble_eq_true rfl) hcap dL_law_125 rfl ?_
        refine j_if_eq 160 131 dL_law_128 rfl (by decide) (by decide) (fun h => absurd h (by decide)) (fun _ => ?_)
        refine j_aload_n 7 132 dL_law_131 rfl rfl ?_
        refine j_aload_n 5 133 dL_law_132 rfl rfl ?_
        refine j_aload 4 135 dL_law_133 rfl rfl ?_
        refine j_aload 3 137 dL_law_135 rfl rfl ?_
        refine j_aload 2 139 dL_law_137 rfl rfl ?_
        refine j_callSiB (wcs := [_, _, _, _, _]) (cs := [_, _, _, _, _]) [0, 2, 3, 4, 5] 142 [_, _, _, _, _, _] (c_L_areBoxes E ad qh S1 H1 P1 v1 _ _ _ _ (i + 1) c1 b1 n1 u1 e1 (by exact k1.1) (by exact k1.2.1) (by omega) (by exact k1.2.2)) rfl rfl rfl kL_law_L_areBoxes rfl rfl rfl rfl (Nat.le_of_ble_eq_true rfl) hcap dL_law_139 rfl ?_
        refine j_if_eq 160 145 dL_law_142 rfl (by decide) (by decide) (fun h => absurd h (by decide)) (fun _ => ?_)
        refine j_aload_n 7 146 dL_law_145 rfl rfl ?_
        refine j_aload 4 148 dL_law_146 rfl rfl ?_
        refine j_aload 3 150 dL_law_148 rfl rfl ?_
        refine j_iload 0 152 dL_law_150 rfl rfl ?_
        refine j_iconst 153 dL_law_152 rfl ?_
        refine j_idiv 154 dL_law_153 rfl (by omega) (by decide) ?_
        refine j_callSiB (wcs := [_, _, _]) (cs := [_, _, _]) [0, 3, 4] 157 [_, _, _, _, _, _] (c_L_areTold E ad qh S1 H1 P1 v1 _ _ (i + 1) c1 b1 n1 u1 e1 _ (by exact k1.1) (by exact k1.2.1) (by omega) (by exact k1.2.2) (by omega)) rfl rfl rfl kL_law_L_areTold rfl rfl rfl rfl (Nat.le_of_ble_eq_true rfl) hcap dL_law_154 rfl ?_
        refine j_if_ne 162 160 dL_law_157 rfl (by decide) (by decide) (fun _ => ?_) (fun h => absurd h (by decide))
        refine j_iinc 1 165 [_, _, _, _, _, _, _, _, _] dL_law_162 rfl rfl (by decide) rfl ?_
        refine j_goto 59 dL_law_165 (by decide) ?_
        refine j_perm [0, 2, 3, 4, 5, 6, 7, 8] rfl ?_
        exact ih (i + 1) (by omega) (by omega) _ _ _ _ _ _ _ _ _ k1
