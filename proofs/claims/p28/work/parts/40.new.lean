/-! constructors: new objects and arrays -/
def jO (U : State) : Prop := va_AO "CupEye$State" U
def jMN {T : Type} (E : jE) (y : MethodName) (ws : List Cond) (rm : Room) (as : List Value) (w : va_W) (B : T → va_W) (mc ms : Nat) : Prop := ∀ (l : Launch) (sz : Nat), Met l y ws rm (fun a U => jPc E sz as w a U ∧ jO U) (va_Qv (fun (_ : T) => True) (fun u t => jAt E (va_A w sz) (B u) t) (va_A w sz)) mc ms (va_A w sz)
def jQn {T : Type} (E : jE) (C : jC) (B : T → va_W) (mc ms : Nat) : State → Prop := MQ (jcB C) (va_Qv (fun (_ : T) => True) (fun u t => jAt E (jcA C) (B u) t) (jcA C)) (jcR C) (jcS C) mc ms (jcA C)
theorem jMN_of {T : Type} {E : jE} {cc : ByteArray} {y : MethodName} {ws ws' : List Cond} {rm : Room} {maxL : Nat} {as : List Value} {w : va_W} {B : T → va_W} {mc ms : Nat} (L0 : List (Nat × Value)) (hy : plainName y.cls = true) (hw : ws = Cond.code y cc maxL none :: ws') (hL : lv_args 0 as = L0) (hn : (lg_sl as).length ≤ maxL) (hi : y.name = "<init>") (h : ∀ C : jC, (jcH C).name = "<init>" → jO (jcS C) → jG (cc, ws, y.cls, maxL, none, rm) E C (jQn E C B mc ms) 0 0 0 L0 [] w) : jMN E y ws rm as w B mc ms := by
  intro l sz
  refine Met.ofW (cc := cc) (maxL := maxL) (ret := none) hy hw ?_
  intro p e s m args below meth c s₁ X hml hv
  obtain ⟨⟨rfl, hsz, hP, hK, hD0, hN⟩, hO⟩ := hv
  subst hsz
  have hD := hD0.self (sz := s.heap.size)
  have hl := lv_entry as (n := maxL) hn
  rw [lg_entry_eq]
  rw [hL] at hl
  exact h (p, l, e, s, m, as.toArray, below, meth, c, va_A w s.heap.size) ((name_of_methodNamed X.named X.method).1.trans hi) hO ⟨X.exec, X.bytes, hml, findClass_of_methodNamed X.named, atoms_spec (ws := ws) X.pre, hK, fun q hq => Or.inr hq, X.returns, X.notSynchronized, hN⟩ s.heap [] _ hP hD va_S.rf hl
theorem zA_int (cA : ClassId) (N : Nat) : vp_cell cA (N, .inl (jA zF)) = arrV cA N (fun _ => defaultValue .int) := by
  rw [vp_cell_i]
  have e : (fun j : Nat => Value.int (jA zF j)) = fun _ => defaultValue .int := by
    funext j
    show Value.int (jI 0) = Value.int 0
    rw [← jI_0]
  rw [e]
theorem zA_bool (cA : ClassId) (N : Nat) : vp_cell cA (N, .inl (jA zF)) = arrV cA N (fun _ => defaultValue .boolean) := by
  rw [vp_cell_i]
  have e : (fun j : Nat => Value.int (jA zF j)) = fun _ => defaultValue .boolean := by
    funext j
    show Value.int (jI 0) = Value.int 0
    rw [← jI_0]
  rw [e]
theorem jI_nn {z : Int} {N : Nat} (hN : z = (N : Int)) (hb : N ≤ 100000) : ¬ jI z < 0 ∧ (jI z).toNatClampNeg = N := by
  subst hN
  refine ⟨?_, ?_⟩
  · rw [jI_0, jI_lt (by omega) (by omega)]
    omega
  · rw [jI_clamp (by omega)]
    omega
/-- behind a constructor's call: the new object's cells beside the rest -/
theorem jJoin {D : va_G} {A0 : Nat → Prop} {w0 w1 : va_W} {a : Nat} {o : va_E} {H H1 : Heap} (hP : va_P D vwCl (w0 ++ [(a, o)]) H) (hD : va_D A0 (w0 ++ [(a, o)])) (hk : ∀ q : Nat, q < H.size → ¬ va_A [(a, o)] H.size q → H1[q]? = H[q]?) (hF : ∀ q, va_A [(a, o)] H.size q → A0 q) (hP1 : va_P D vwCl w1 H1) (hD1 : va_D (va_A [(a, o)] H.size) w1) : va_P D vwCl (w0 ++ w1) H1 ∧ va_D A0 (w0 ++ w1) := by
  have at0 : ∀ (k : Nat) (q : Nat × va_E), w0[k]? = some q → (w0 ++ [(a, o)])[k]? = some q := by
    intro k q h
    have hl : k < w0.length := (List.getElem?_eq_some_iff.mp h).1
    rw [List.getElem?_append_left hl]
    exact h
  have ata : (w0 ++ [(a, o)])[w0.length]? = some (a, o) := by
    rw [List.getElem?_append_right (Nat.le_refl _), Nat.sub_self]
    rfl
  have out : ∀ (k : Nat) (q : Nat × va_E), w0[k]? = some q → q.1 < H.size ∧ ¬ va_A [(a, o)] H.size q.1 := by
    intro k q h
    have hl : k < w0.length := (List.getElem?_eq_some_iff.mp h).1
    have lt := (hP k q (at0 k q h)).lt
    refine ⟨lt, ?_⟩
    rintro (⟨i, e, hi⟩ | hi)
    · have hz : i < 1 := (List.getElem?_eq_some_iff.mp hi).1
      have i0 : i = 0 := by omega
      subst i0
      have e1 : a = q.1 := congrArg Prod.fst (Option.some.inj hi)
      have := hD.1 k w0.length q (a, o) (at0 k q h) ata e1.symm
      omega
    · omega
  refine ⟨va_P.app (fun k q hq => ?_) hP1, va_D.app ⟨fun i j x y hi hj hxy => hD.1 i j x y (at0 i x hi) (at0 j y hj) hxy, fun k q hq => hD.2 k q (at0 k q hq)⟩ (hD1.weaken (fun k q _ h => hF q.1 h)) (fun i j x y hx hy hxy => ?_)⟩
  · obtain ⟨g1, g2⟩ := out k q hq
    exact (hP k q (at0 k q hq)).kept (hk q.1 g1 g2)
  · exact (out i x hx).2 (by rw [hxy]; exact hD1.2 j y hy)
/-- what a constructor's call needs of words, names and room -/
def jKn (M : jM) (y : MethodName) (ws : List Cond) (rm : Room) (mc ms : Nat) : Prop := GoodIn M.2.1 ws ∧ (∃ (bytes : ByteArray) (maxL : Nat) (ws' : List Cond), ws = Cond.code y bytes maxL none :: ws' ∧ 8 + (maxL + 11) + rm.locals ≤ M.2.2.2.2.2.locals) ∧ (y.cls ≠ "java/lang/invoke/MethodHandle" ∧ y.cls ≠ "java/lang/invoke/VarHandle" ∧ (parseMethodDescriptor y.desc).map (fun d => d.parameters.length) = some 0) ∧ (rm.cells = mc ∧ rm.slots = ms ∧ rm.frames + 1 ≤ M.2.2.2.2.2.frames) ∧ y.name = "<init>" ∧ (Cond.initialized y.cls ∈ M.2.1 ∧ Cond.instanceMethod y ∈ M.2.1)
section
variable {M : jM} {E : jE} {C : jC} {Q : State → Prop} {k n pc : Nat} {L : List (Nat × Value)} {S : List Value} {w : va_W}
theorem j_objInit {index a : Nat} (pc' : Nat) (h1 : (.methodLink M.2.2.1 index objectInit : Cond) ∈ M.2.1) (h2 : (.instanceMethod objectInit : Cond) ∈ M.2.1) (h3 : (.code objectInit ⟨#[0xb1]⟩ 1 none : Cond) ∈ M.2.1) (hR : 1 ≤ M.2.2.2.2.2.frames ∧ (S.map fun v => v.category).sum + 12 ≤ M.2.2.2.2.2.locals) (hd : decode M.1 pc = .ok (.invokespecial index, 3)) (hn : pc + 3 = pc') (kk : jG M E C Q k n pc' L S w) : jG M E C Q k n pc L (.ref a :: S) w := by
  subst hn
  intro hF H locs ls hP hD hS hl
  have hts := hF.2.2.2.2.1
  exact W.objInit (rest := S) hF.1 hF.2.1 hF.2.2.2.1 (hts _ h1) (hts _ h2) (hts _ h3) rfl (hl.1.trans hF.2.2.1.symm) rfl hd hR.1 (by show 2 * 0 + _ + 12 ≤ _; omega) (W.eq (g2 := F0 (jcM C) (pc + 3) ls S) rfl (kk hF H locs ls hP hD hS hl))
theorem j_newaI {z : Int} (N pc' : Nat) (hN : z = (N : Int)) (hb : N ≤ 100000) (h1 : (.arrayClass .int : Cond) ∈ M.2.1) (hc : k + 1 ≤ M.2.2.2.2.2.cells) (hs : n + N ≤ M.2.2.2.2.2.slots) (hd : decode M.1 pc = .ok (.newarray .int, 2)) (hn : pc + 2 = pc') (kk : ∀ q : Nat, jG M E C Q (k + 1) (n + N) pc' L (.ref q :: S) (w ++ [(q, .inl (E.2.1, N, .inl (jA zF)))])) : jG M E C Q k n pc L (.int (jI z) :: S) w := by
  subst hn
  intro hF H locs ls hP hD hS hl
  have hts := hF.2.2.2.2.1
  have hK := hF.2.2.2.2.2.1
  obtain ⟨n1, n2⟩ := jI_nn hN hb
  refine va_newa (atype := .int) (ty := .int) (a0 := (N, .inl (jA zF))) (N' := N) hF.1 hF.2.1 (hts _ h1) rfl hK hP hD hS hF.2.2.2.2.2.2.1 (fun cA => zA_int cA N) n1 n2 (by show N * 4 ≤ _; omega) hc hs hd (fun q cA H1 hK1 hP1 hD1 hS1 => ?_)
  have e : cA = E.2.1 := Option.some.inj ((hK1.2 3 (cA, .int) rfl).2.symm.trans (hK.2 0 (E.2.1, .int) rfl).2)
  subst e
  exact kk q hF H1 locs ls hP1 hD1 hS1 hl
theorem j_newaZ {z : Int} (N pc' : Nat) (hN : z = (N : Int)) (hb : N ≤ 100000) (h1 : (.arrayClass .boolean : Cond) ∈ M.2.1) (hc : k + 1 ≤ M.2.2.2.2.2.cells) (hs : n + N ≤ M.2.2.2.2.2.slots) (hd : decode M.1 pc = .ok (.newarray .boolean, 2)) (hn : pc + 2 = pc') (kk : ∀ q : Nat, jG M E C Q (k + 1) (n + N) pc' L (.ref q :: S) (w ++ [(q, .inl (E.2.2.1, N, .inl (jA zF)))])) : jG M E C Q k n pc L (.int (jI z) :: S) w := by
  subst hn
  intro hF H locs ls hP hD hS hl
  have hts := hF.2.2.2.2.1
  have hK := hF.2.2.2.2.2.1
  obtain ⟨n1, n2⟩ := jI_nn hN hb
  refine va_newa (atype := .boolean) (ty := .boolean) (a0 := (N, .inl (jA zF))) (N' := N) hF.1 hF.2.1 (hts _ h1) rfl hK hP hD hS hF.2.2.2.2.2.2.1 (fun cA => zA_bool cA N) n1 n2 (by show N * 1 ≤ _; omega) hc hs hd (fun q cA H1 hK1 hP1 hD1 hS1 => ?_)
  have e : cA = E.2.2.1 := Option.some.inj ((hK1.2 3 (cA, .boolean) rfl).2.symm.trans (hK.2 1 (E.2.2.1, .boolean) rfl).2)
  subst e
  exact kk q hF H1 locs ls hP1 hD1 hS1 hl
theorem j_newq {z : Int} {index : Nat} (N pc' : Nat) (hN : z = (N : Int)) (hb : N ≤ 100000) (hO : jO (jcS C)) (h1 : (.classLink M.2.2.1 index "CupEye$State" : Cond) ∈ M.2.1) (hc : k + 1 ≤ M.2.2.2.2.2.cells) (hs : n + N ≤ M.2.2.2.2.2.slots) (hd : decode M.1 pc = .ok (.anewarray index, 3)) (hn : pc + 3 = pc') (kk : ∀ q : Nat, jG M E C Q (k + 1) (n + N) pc' L (.ref q :: S) (w ++ [(q, .inl (E.2.2.2, N, .inr (.inr (.inr (.inr (fun _ => none))))))])) : jG M E C Q k n pc L (.int (jI z) :: S) w := by
  subst hn
  intro hF H locs ls hP hD hS hl
  have hts := hF.2.2.2.2.1
  have hK := hF.2.2.2.2.2.1
  obtain ⟨n1, n2⟩ := jI_nn hN hb
  refine va_newq (N' := N) hF.1 hF.2.1 hF.2.2.2.1 (hts _ h1) hO hK hP hD hS hF.2.2.2.2.2.2.1 n1 n2 (by omega) hc hs hd (fun q cA H1 hK1 hP1 hD1 hS1 => ?_)
  obtain ⟨_, _, _, _, _, f1⟩ := (hK1.2 3 (cA, .object "CupEye$State") rfl).2
  obtain ⟨_, _, _, _, _, f2⟩ := (hK.2 2 (E.2.2.2, .object "CupEye$State") rfl).2
  have e : cA = E.2.2.2 := Option.some.inj (f1.symm.trans f2)
  subst e
  exact kk q hF H1 locs ls hP1 hD1 hS1 hl
theorem j_new {Cn : String} {T : u_T} {N ci index : Nat} (fs : List Value) (pc' : Nat) (ty : Nat → FieldType) (hty : ∀ q, q < N → parseFieldDescriptor (T q).2.2.1 = some (ty q)) (hin : ∀ x ∈ u_ws Cn T N, x ∈ M.2.1) (h1 : (.classLink M.2.2.1 index Cn : Cond) ∈ M.2.1) (h2 : (.instantiable Cn N : Cond) ∈ M.2.1) (h3 : (.initialized Cn : Cond) ∈ M.2.1) (hcl : vwCl[ci]? = some (Cn, T, N)) (hfs : ∀ j, j < N → defaultValue (ty j) = vp_V fs j) (hc : k + 1 ≤ M.2.2.2.2.2.cells) (hs : n + N ≤ M.2.2.2.2.2.slots) (hd : decode M.1 pc = .ok (.new index, 3)) (hn : pc + 3 = pc') (kk : ∀ q : Nat, jG M E C Q (k + 1) (n + N) pc' L (.ref q :: S) (w ++ [(q, .inr (ci, fs))])) : jG M E C Q k n pc L S w := by
  subst hn
  intro hF H locs ls hP hD hS hl
  have hts := hF.2.2.2.2.1
  exact va_new hF.1 hF.2.1 hts hin ty hty hF.2.2.2.1 (hts _ h1) (hts _ h2) (hts _ h3) hF.2.2.2.2.2.1 hP hD hS hF.2.2.2.2.2.2.1 hcl hfs hc hs hd (fun q H1 hP1 hD1 hS1 => kk q hF H1 locs ls hP1 hD1 hS1 hl)
theorem j_putF {T : u_T} {N ci index a : Nat} {Cn : String} {fs : List Value} {v : Value} {ty : FieldType} (q0 kf il pc' : Nat) (w' : va_W) (ty0 : Nat → FieldType) (hty : ∀ q, q < N → parseFieldDescriptor (T q).2.2.1 = some (ty0 q)) (hnm : ∀ a, a < N → ∀ b, b < N → a ≠ b → (T a).2.1 ≠ (T b).2.1) (hin : ∀ x ∈ u_ws Cn T N, x ∈ M.2.1) (hi : (jcH C).name = "<init>") (hd : decode M.1 pc = .ok (.putfield index, 3)) (hn : pc + 3 = pc') (he : w[q0]? = some (a, .inr (ci, fs))) (hc : vwCl[ci]? = some (Cn, T, N)) (hk : kf < N) (hil : M.2.1[il]? = some (.fieldLink M.2.2.1 index (T kf).1 (T kf).2.1 (T kf).2.2.1)) (hfin : (T kf).2.2.2 = true) (hdecl : (T kf).1 = M.2.2.1) (ht : ty0 kf = ty) (hnr : narrow ty v = v) (hft : fits ty v = true) (hl0 : kf < fs.length) (hw : w.set q0 (a, .inr (ci, fs.set kf v)) = w') (kk : jG M E C Q k n pc' L S w') : jG M E C Q k n pc L (v :: .ref a :: S) w := by
  subst hn; subst hw; subst ht
  exact fun hF H locs ls hP hD hS hl => va_putF hF.1 hF.2.1 hF.2.2.2.2.1 hin ty0 hty hnm hF.2.2.2.1 hF.2.2.2.2.2.1 hP hD hS q0 he hc kf hk (hF.2.2.2.2.1 _ (List.mem_of_getElem? hil)) (fun _ h => h) hfin hi hdecl (hty kf hk) hnr hft hl0 hd (fun H1 locs1 hP1 hD1 hS1 => kk hF H1 locs1 ls hP1 hD1 hS1 hl)
theorem j_astq {a v ci nA : Nat} {f : Nat → Option Nat} {vs : List Value} {i : Int} {N : Nat} {T : u_T} (q0 qk pc' : Nat) (w' : va_W) (hd : decode M.1 pc = .ok (.aastore, 1)) (hn : pc + 1 = pc') (ha : w[q0]? = some (a, .inl (E.2.2.2, nA, .inr (.inr (.inr (.inr f)))))) (hv : w[qk]? = some (v, .inr (ci, vs))) (hc : vwCl[ci]? = some ("CupEye$State", T, N)) (hA : nA < 2147483648) (hi : 0 ≤ i ∧ i < (nA : Int)) (hw : w.set q0 (a, .inl (E.2.2.2, nA, .inr (.inr (.inr (.inr (va_up f i.toNat (some v))))))) = w') (kk : jG M E C Q k n pc' L S w') : jG M E C Q k n pc L (.ref v :: .int (jI i) :: .ref a :: S) w := by
  subst hn; subst hw
  intro hF H locs ls hP hD hS hl
  refine va_astq (r := ("CupEye$State", T, N)) hF.1 hF.2.1 hF.2.2.2.2.2.1 hP hD hS q0 2 qk ci ha rfl hv hc (jI_in hi hA) hd (fun H1 locs1 hP1 hD1 hS1 => ?_)
  rw [jI_clamp ⟨hi.1, by omega⟩] at hP1 hD1
  exact kk hF H1 locs1 ls hP1 hD1 hS1 hl
theorem jPO_blind (E : jE) (sz : Nat) (as : List Value) (w : va_W) : FrameBlind (fun a U => jPc E sz as w a U ∧ jO U) := fun a U g mk q => ⟨jPc_blind E sz as w a U g mk q.1, va_AO.moved (u := U) (U := U.calling g mk a) (Vm.Alike.refl U.vm) q.2⟩
/-- a constructor's call -/
theorem j_init {T : Type} {y : MethodName} {ws : List Cond} {rm : Room} {index a mc ms : Nat} {o : va_E} {B : T → va_W} {w0 : va_W} (pc' : Nat) (hM : jMN E y ws rm [.ref a] [(a, o)] B mc ms) (hO : jO (jcS C)) (hK : jKn M y ws rm mc ms) (hl1 : Cond.methodLink M.2.2.1 index y ∈ M.2.1) (hcat : (S.map fun v => v.category).sum ≤ 8) (hcap : k + mc ≤ M.2.2.2.2.2.cells ∧ n + ms ≤ M.2.2.2.2.2.slots) (hd : decode M.1 pc = .ok (.invokespecial index, 3)) (hn : pc + 3 = pc') (kk : ∀ u : T, jG M E C Q (k + mc) (n + ms) pc' L S (w0 ++ B u)) : jG M E C Q k n pc L (.ref a :: S) (w0 ++ [(a, o)]) := by
  subst hn
  intro hF H locs ls hP hD hS hl
  obtain ⟨hG, ⟨bytes, maxL, ws', hw1, hlo⟩, hd2, ⟨hrc, hrs, hfr⟩, hnm, hini, hins⟩ := hK
  have hts := hF.2.2.2.2.1
  have ha : (w0 ++ [(a, o)])[w0.length]? = some (a, o) := by
    rw [List.getElem?_append_right (Nat.le_refl _), Nat.sub_self]
    rfl
  have hPc : va_P E.1 vwCl [(a, o)] H := hP.sub (ws' := [(a, o)]) [w0.length] (by simp [ha])
  have hm : [w0.length].map (fun i => (w0 ++ [(a, o)])[i]?) = [(a, o)].map some := by simp [ha]
  have hDc : va_D (jcA C) [(a, o)] := hD.sub (ws' := [(a, o)]) [w0.length] rfl hm
  have hFc := va_free (wc := [(a, o)]) hD hS hF.2.2.2.2.2.2.1 [w0.length] hm
  refine va_callv (va_runI (As := []) (rest := S) ⟨hF.1, hF.2.1, hF.2.2.1, hF.2.2.2.1, hts⟩ (hM (jcL C) H.size) (cwI 0 hts hG hw1 hrc hrs (hts _ hini) (hts _ hl1) (hts _ hins) hnm hd2 ⟨hfr, hlo⟩) ⟨jPO_blind E H.size [.ref a] [(a, o)], fun U hU hW => ⟨⟨rfl, by rw [hU], by rw [hU]; exact hPc, va_K.moved hW.alike hF.2.2.2.2.2.1, hDc.weaken (fun _ _ _ _ => trivial), hF.2.2.2.2.2.2.2.2.2.warm hW⟩, va_AO.moved hW.alike hO⟩⟩ rfl rfl hl.1 rfl (lv_room hcat) hd hcap) hS (fun q _ h => hFc q h) hFc (fun u t H1 locs1 ht hvm hw hB hz1 hk1 hS1 => ?_)
  obtain ⟨hP1, hD1⟩ := hB
  rw [ht] at hP1
  obtain ⟨hP2, hD2⟩ := jJoin hP hD hk1 hFc hP1 hD1
  exact kk u hF H1 locs1 ls hP2 hD2 hS1 hl
/-- a nest mate's private constructor's call -/
theorem j_initN {T : Type} {y : MethodName} {ws : List Cond} {rm : Room} {index a mc ms : Nat} {o : va_E} {B : T → va_W} {w0 : va_W} (il pc' : Nat) (hM : jMN E y ws rm [.ref a] [(a, o)] B mc ms) (hO : jO (jcS C)) (hK : jKn M y ws rm mc ms) (hil : jNest[il]? = some (.methodLinkNest M.2.2.1 index y "CupEye")) (hcat : (S.map fun v => v.category).sum ≤ 8) (hcap : k + mc ≤ M.2.2.2.2.2.cells ∧ n + ms ≤ M.2.2.2.2.2.slots) (hd : decode M.1 pc = .ok (.invokespecial index, 3)) (hn : pc + 3 = pc') (kk : ∀ u : T, jG M E C Q (k + mc) (n + ms) pc' L S (w0 ++ B u)) : jG M E C Q k n pc L (.ref a :: S) (w0 ++ [(a, o)]) := by
  subst hn
  intro hF H locs ls hP hD hS hl
  obtain ⟨hG, ⟨bytes, maxL, ws', hw1, hlo⟩, hd2, ⟨hrc, hrs, hfr⟩, hnm, hini, hins⟩ := hK
  have hts := hF.2.2.2.2.1
  have ha : (w0 ++ [(a, o)])[w0.length]? = some (a, o) := by
    rw [List.getElem?_append_right (Nat.le_refl _), Nat.sub_self]
    rfl
  have hPc : va_P E.1 vwCl [(a, o)] H := hP.sub (ws' := [(a, o)]) [w0.length] (by simp [ha])
  have hm : [w0.length].map (fun i => (w0 ++ [(a, o)])[i]?) = [(a, o)].map some := by simp [ha]
  have hDc : va_D (jcA C) [(a, o)] := hD.sub (ws' := [(a, o)]) [w0.length] rfl hm
  have hFc := va_free (wc := [(a, o)]) hD hS hF.2.2.2.2.2.2.1 [w0.length] hm
  refine va_callv (va_runIN (As := []) (rest := S) ⟨hF.1, hF.2.1, hF.2.2.1, hF.2.2.2.1, hts⟩ (hM (jcL C) H.size) ⟨va_cnB 0 hts hG hw1 hrc hrs (hF.2.2.2.2.2.2.2.2.2 _ (List.mem_of_getElem? hil)) (hts _ hini) hd2 ⟨hfr, hlo⟩, hnm, hts _ hins⟩ ⟨jPO_blind E H.size [.ref a] [(a, o)], fun U hU hW => ⟨⟨rfl, by rw [hU], by rw [hU]; exact hPc, va_K.moved hW.alike hF.2.2.2.2.2.1, hDc.weaken (fun _ _ _ _ => trivial), hF.2.2.2.2.2.2.2.2.2.warm hW⟩, va_AO.moved hW.alike hO⟩⟩ rfl rfl hl.1 rfl (lv_room hcat) hd hcap) hS (fun q _ h => hFc q h) hFc (fun u t H1 locs1 ht hvm hw hB hz1 hk1 hS1 => ?_)
  obtain ⟨hP1, hD1⟩ := hB
  rw [ht] at hP1
  obtain ⟨hP2, hD2⟩ := jJoin hP hD hk1 hFc hP1 hD1
  exact kk u hF H1 locs1 ls hP2 hD2 hS1 hl
theorem j_nret {T : Type} {B : T → va_W} (u : T) (hd : decode M.1 pc = .ok (.return_, 1)) (hr : M.2.2.2.2.1 = none) (hw : w = B u) : jG M E C (jQn E C B k n) k n pc L [] w := by
  subst hw
  intro hF H locs ls hP hD hS hl
  exact W.vret hF.1 hF.2.1 (hF.2.2.2.2.2.2.2.1.trans hr) (fun t ht hW => ⟨⟨u, rfl, trivial, by rw [ht]; exact hP, hD⟩, hS.F ht⟩) hS.2.2 hd (hlocks := hF.2.2.2.2.2.2.2.2.1)
/-- the world's cells in another order -/
theorem j_mix {w' : va_W} (h : w.Perm w') (kk : jG M E C Q k n pc L S w') : jG M E C Q k n pc L S w := by
  intro hF H locs ls hP hD hS hl
  refine kk hF H locs ls (va_P_mem.mpr fun q hq => va_P_mem.mp hP q (h.mem_iff.mpr hq)) (va_D_iff.mpr ⟨?_, fun q hq => (va_D_iff.mp hD).2 q (h.mem_iff.mpr hq)⟩) hS hl
  exact ((h.map Prod.fst).nodup_iff).mp (va_D_iff.mp hD).1
end
