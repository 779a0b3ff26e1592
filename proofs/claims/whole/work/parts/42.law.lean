/-! THE CLAIM OUT OF ONE WALK OF THE LAW'S BODY. Your part is whole_start (and what it stands on); all else here is the same for every law, but numbers. -/
def R_law : String := "CupEyeLaw"
def lw_P (b : Addr) (xs : List Int32) (args : Array Value) (s : State) : Prop := args = #[.ref b] ∧ s.IntsAt b xs ∧ xs.length ≤ 3072 ∧ (Jvm.Cond.and given_1 narrow_1).before args s = true
/-- what a walk over the start with the record d0 says of its end, said of the start itself -/
theorem lw_closed {s t : State} {o : Outcome} {d0 : Drawn} {L : List Loc} {k n : Nat} (hd0 : s.drawn.sameBut d0 lw_cs) (hv : ∃ v, o = .returned v) (hW : (s.setDrawn d0).WarmedH t.vm) (hs : (s.setDrawn d0).sameButNew ({ t with vm := s.vm } : State) L k n) : State.butDraws s t lw_cs (fun t1 => Framed s o t1 L k n) := by
  have h2 : t.drawn = d0 := congrArg State.drawn hs.1
  refine ⟨⟨hv, hW, State.sameButNew.setDrawn hs s.drawn⟩, ?_, by decide⟩
  rw [h2]
  exact hd0
def lw_Q (_ : Array Value) (s : State) (o : Outcome) (t : State) : Prop := o = .returned (some (.int 1)) ∧ State.butDraws s t lw_cs (fun t1 => Framed s o t1 [] 600000 7302250)
def lw_Z (below : List Frame) (a : Array Value) (s : State) : State → Prop := fun t => ∃ o, t.status = .running ∧ Ended t below o ∧ lw_Q a s o t
/-- the law's own end, with 1 on the stack, nothing written that was there before, its room as the claim has it; d0: the record of draws at this point (at the entry s.drawn: begin with 'refine W.base ?_' and 'have hd0 := Drawn.sameBut.refl s.drawn lw_cs') -/
theorem lw_ret {p : Program} {l : Launch} {e : Env} {s : State} {m : MethodId} {below : List Frame} {meth : Method} {c : Code} {b : Nat} {d0 : Drawn} (hd0 : s.drawn.sameBut d0 lw_cs) (hx : p.tables.exec = Jvm.exec) (hb : c.code = code) (hr : meth.sig.returnType = ret) (hlocks : meth.locks = false) {pc : Nat} {H : Heap} {ls : Array Slot} (hdg : decode code pc = .ok (.ireturn, 1)) : W p l e room_1 (s.setDrawn d0) m #[Value.ref b] below meth c H [] 600000 7302250 (lw_Z below #[Value.ref b] s) (F0 m pc ls [.int 1]) := by
  intro T hT X
  obtain ⟨fs, hret, hrun, hended, hW, hframe⟩ := X.leave (v := some (.int 1)) (hlocks := hlocks) (fun h => by rw [hr] at h; cases h)
  have hmeth' : T.vm.method? m = some meth := X.method'
  refine ⟨T.setFrames fs, ?_, .returned (some (.int 1)), hrun, hended, rfl, lw_closed hd0 ⟨_, rfl⟩ hW hframe⟩
  jvm_step X.here [X.here.top, hx, hb, hdg, hmeth', hr, ret, narrow_b1]
  (try refine ⟨rfl, ?_⟩); (try refine ⟨rfl, ?_⟩)
  first | (intro acts; rw [hret _ acts rfl rfl rfl]) | rw [hret _ _ rfl rfl rfl]
  exact Steps.refl _
/-- what holds at the law's entry: the machine, the code, the tables' words (any of lw_tbl by 'hts w (by decide +kernel)'), the script of L ints xs at the cell b, what the Statement gives of the start (any of its parts by flat_of_before) -/
def lw_At (p : Program) (s : State) (m : MethodId) (meth : Method) (c : Code) (b L : Nat) (xs : Nat → Int32) : Prop :=
  p.tables.exec = Jvm.exec ∧ c.code = code ∧ meth.sig.returnType = ret ∧ c.maxLocals = 8 ∧ s.vm.findClass R_law = some m.cls ∧ (∀ w ∈ lw_tbl, w.before #[Value.ref b] s = true) ∧ va_X b L xs s s.heap ∧ b < s.heap.size ∧ meth.locks = false ∧ (Jvm.Cond.and given_1 narrow_1).before #[Value.ref b] s = true
/-! the law: its rows -/
abbrev mL : jM := (code, wsL_law, RL, 8, ret, room_1)
theorem jFl_1 (b : va_W) : b = jFl [b] := rfl
theorem jFl_2 (b c : va_W) : ([] ++ b) ++ c = jFl [b, c] := rfl
def sX (xs : Nat → Int32) (i : Int) : Int := (xs i.toNat).toInt
theorem sX_rng (xs : Nat → Int32) (i : Int) : -2147483648 ≤ sX xs i ∧ sX xs i < 2147483648 := jI_rng _
section
variable {M : jM} {E : jE} {C : jC} {Q : State → Prop} {k n pc : Nat} {L : List (Nat × Value)} {S : List Value} {w : va_W}
theorem j_sld {b L0 : Nat} {xs : Nat → Int32} {i : Int} (pc' : Nat) (hX : va_X b L0 xs (jcS C) (jcS C).heap) (hbl : b < (jcS C).heap.size) (hbA : ¬ jcA C b) (hL0 : L0 < 2147483648) (hi : 0 ≤ i ∧ i < (L0 : Int)) (hd : decode M.1 pc = .ok (.iaload, 1)) (hn : pc + 1 = pc') (kk : jG M E C Q k n pc' L (.int (jI (sX xs i)) :: S) w) : jG M E C Q k n pc L (.int (jI i) :: .ref b :: S) w := by
  subst hn
  intro hF H locs ls hP hD hS hl
  refine va_sld hF.1 hF.2.1 hX hbl hbA hS (jI_in hi hL0) hd ?_
  have e : xs (jI i).toNatClampNeg = jI (sX xs i) := by
    rw [jI_clamp ⟨hi.1, by omega⟩]
    exact (jI_self _).symm
  rw [e]
  exact kk hF H locs ls hP hD hS hl
theorem j_slen {b L0 : Nat} {xs : Nat → Int32} (pc' : Nat) (hX : va_X b L0 xs (jcS C) (jcS C).heap) (hbl : b < (jcS C).heap.size) (hbA : ¬ jcA C b) (hL0 : L0 < 2147483648) (hd : decode M.1 pc = .ok (.arraylength, 1)) (hn : pc + 1 = pc') (kk : jG M E C Q k n pc' L (.int (jI (L0 : Int)) :: S) w) : jG M E C Q k n pc L (.ref b :: S) w := by
  subst hn
  intro hF H locs ls hP hD hS hl
  refine va_slen hF.1 hF.2.1 hX hbl hbA hS hd ?_
  have e : Int32.ofNat L0 = jI (L0 : Int) := by
    have h := jI_self (nI L0)
    rw [nI_toInt (by omega)] at h
    exact h.symm
  rw [e]
  exact kk hF H locs ls hP hD hS hl
theorem j_iand {x y : Int} (pc' : Nat) (hd : decode M.1 pc = .ok (.iand, 1)) (hn : pc + 1 = pc') (kk : ∀ z : Int, -2147483648 ≤ z ∧ z < 2147483648 → jG M E C Q k n pc' L (.int (jI z) :: S) w) : jG M E C Q k n pc L (.int (jI y) :: .int (jI x) :: S) w := by
  subst hn
  intro hF H locs ls hP hD hS hl
  refine lv_iand hF.1 hF.2.1 hd ?_
  have h := kk _ (jI_rng (jI x &&& jI y)) hF H locs ls hP hD hS hl
  rw [jI_self] at h
  exact h
theorem j_same {x y off : Int} (tgt : Nat) (hd : decode M.1 pc = .ok (.if_icmp .eq off, 3)) (ht : (pc : Int) + off = (tgt : Int)) (h : y = x) (kk : jG M E C Q k n tgt L S w) : jG M E C Q k n pc L (.int (jI y) :: .int (jI x) :: S) w := by
  subst h
  exact fun hF H locs ls hP hD hS hl => lv_icmp_eq hF.1 hF.2.1 hd ht (fun _ => kk hF H locs ls hP hD hS hl) (fun q => absurd rfl q)
theorem j_dload {i : Nat} {x : UInt64} (q pc' : Nat) (hd : decode M.1 pc = .ok (.dload i, 2)) (hn : pc + 2 = pc') (hl : L[q]? = some (i, .double x)) (kk : jG M E C Q k n pc' L (.double x :: S) w) : jG M E C Q k n pc L S w := by
  subst hn
  exact fun hF H locs ls hP hD hS hl' => lv_dload hF.1 hF.2.1 hd (lv_at hl' q hl) (kk hF H locs ls hP hD hS hl')
theorem j_dstore {i : Nat} {x : UInt64} (pc' : Nat) (L' : List (Nat × Value)) (hd : decode M.1 pc = .ok (.dstore i, 2)) (hn : pc + 2 = pc') (hi : i + 1 < M.2.2.2.1) (hl : (i, Value.double x) :: L.filter (fun q => !(q.1 == i) && (!(q.1 == i + 1) && !(q.1 + 1 == i && q.2.category == 2))) = L') (kk : jG M E C Q k n pc' L' S w) : jG M E C Q k n pc L (.double x :: S) w := by
  subst hn
  exact fun hF H locs ls hP hD hS hl' => lv_dstore hF.1 hF.2.1 hd hl' hi hl (fun ls' h' => kk hF H locs ls' hP hD hS h')
/-- two doubles compared: the answer is a number -/
def dC (x y : UInt64) : Int := (Op.cmpValue (FP.dcmp x y) .l).toInt
theorem j_dcmp {x y : UInt64} (pc' : Nat) (hd : decode M.1 pc = .ok (.dcmp .l, 1)) (hn : pc + 1 = pc') (kk : jG M E C Q k n pc' L (.int (jI (dC x y)) :: S) w) : jG M E C Q k n pc L (.double y :: .double x :: S) w := by
  subst hn
  intro hF H locs ls hP hD hS hl
  refine lv_dcmp hF.1 hF.2.1 hd ?_
  have h := kk hF H locs ls hP hD hS hl
  rw [show jI (dC x y) = Op.cmpValue (FP.dcmp x y) .l from jI_self _] at h
  exact h
theorem dC_rng (x y : UInt64) : -2147483648 ≤ dC x y ∧ dC x y < 2147483648 := jI_rng _
variable {bs : List va_W}
theorem j_callVdB {y : MethodName} {ws : List Cond} {rm : Room} {index : Nat} {as St : List Value} {wc wc' : va_W} {wcs cs : List va_W} {z : UInt64} {b ci N : Nat} {fs : List Value} {T : u_T} {b0 : va_W}  (qb q0 : Nat) (ks : List Nat) (pc' : Nat) (bs' : List va_W) (hM : jMD E y ws rm (.ref b :: as) wc z wc') (hwc : wc = jFl wcs) (hwc' : wc' = jFl cs) (hst : as.reverse ++ .ref b :: S = St) (hK : jKv M index y ws rm as.length) (hb : bs[qb]? = some b0) (he : b0[q0]? = some (b, .inr (ci, fs))) (hc : vwCl[ci]? = some (y.cls, T, N)) (hks : ks.map (fun i => bs[i]?) = wcs.map some) (hnd : va_nd ks = true) (hput : jPutB bs ks cs = bs') (hfst : cs.map (fun b => b.map Prod.fst) = wcs.map (fun b => b.map Prod.fst)) (hcat : (S.map fun v => v.category).sum ≤ 8) (hcap : k ≤ M.2.2.2.2.2.cells ∧ n ≤ M.2.2.2.2.2.slots) (hd : decode M.1 pc = .ok (.invokevirtual index, 3)) (hn : pc + 3 = pc') (kk : jG M E C Q k n pc' L (.double z :: S) (jFl bs')) : jG M E C Q k n pc L St (jFl bs) := by
  subst hst; subst hn; subst hwc; subst hwc'; subst hput
  intro hF H locs ls hP hD hS hl
  obtain ⟨hK0, ⟨bytes, maxL, ret, ws', hw1, hlo⟩, hK2, hrc, hrs, hfr⟩ := hK
  have hN := va_nd_nodup _ hnd
  obtain ⟨hPc, hDc⟩ := jCut ks hP hD hN hks
  have hFc : ∀ q, va_A (jFl wcs) H.size q → jcA C q := fun q h => by
    rcases h with ⟨i, e, h⟩ | h
    · exact hDc.2 i (q, e) h
    · exact hF.2.2.2.2.2.2.1 q (Nat.le_trans hS.1 h)
  obtain ⟨j0, he1, -⟩ := jFl_at hb he
  refine va_calld (va_runV (As := as) (rest := S) ⟨hF.1, hF.2.1, hF.2.2.1, hF.2.2.2.1, hF.2.2.2.2.1⟩ (hM (jcL C) H.size) (cwV as.length hF.2.2.2.2.1 hK0 hw1 hrc hrs ⟨rfl, hK2⟩ ⟨hfr, hlo⟩) ⟨jPc_blind E H.size (.ref b :: as) (jFl wcs), va_recv hF.2.2.2.2.2.1 hP hc he1, fun U hU hW => ⟨rfl, by rw [hU], by rw [hU]; exact hPc, va_K.moved hW.alike hF.2.2.2.2.2.1, hDc.weaken (fun _ _ _ _ => trivial), hF.2.2.2.2.2.2.2.2.2.warm hW⟩⟩ rfl rfl hl.1 rfl (lv_room hcat) hd hcap) hS (fun q _ h => hFc q h) hFc (fun r u t H1 locs1 ht hvm hw hB hz1 hk1 hS1 => ?_)
  subst hw
  obtain ⟨hP1, hD1⟩ := hB
  rw [ht] at hP1
  obtain ⟨hP2, hD2⟩ := jBackB ks hP hD hN hks hfst hk1 hP1
  exact kk hF H1 locs1 ls hP2 hD2 hS1 hl
theorem j_callVd {y : MethodName} {ws : List Cond} {rm : Room} {index : Nat} {as St : List Value} {wc wc' : va_W} {z : UInt64} {b ci N : Nat} {fs : List Value} {T : u_T}  (q0 : Nat) (ks : List Nat) (pc' : Nat) (w' : va_W) (hM : jMD E y ws rm (.ref b :: as) wc z wc') (hst : as.reverse ++ .ref b :: S = St) (hK : jKv M index y ws rm as.length) (he : w[q0]? = some (b, .inr (ci, fs))) (hc : vwCl[ci]? = some (y.cls, T, N)) (hks : ks.map (fun i => w[i]?) = wc.map some) (hnd : va_nd ks = true) (hput : jPut w ks wc' = w') (hlen : ks.length = wc'.length) (hfst : w'.map Prod.fst = w.map Prod.fst) (hcat : (S.map fun v => v.category).sum ≤ 8) (hcap : k ≤ M.2.2.2.2.2.cells ∧ n ≤ M.2.2.2.2.2.slots) (hd : decode M.1 pc = .ok (.invokevirtual index, 3)) (hn : pc + 3 = pc') (kk : jG M E C Q k n pc' L (.double z :: S) w') : jG M E C Q k n pc L St w := by
  subst hst; subst hn
  intro hF H locs ls hP hD hS hl
  obtain ⟨hK0, ⟨bytes, maxL, ret, ws', hw1, hlo⟩, hK2, hrc, hrs, hfr⟩ := hK
  have hPc := hP.sub (ws' := wc) ks (jSub hks)
  have hDc := hD.sub (ws' := wc) ks hnd hks
  have hFc := va_free (wc := wc) hD hS hF.2.2.2.2.2.2.1 ks hks
  refine va_calld (va_runV (As := as) (rest := S) ⟨hF.1, hF.2.1, hF.2.2.1, hF.2.2.2.1, hF.2.2.2.2.1⟩ (hM (jcL C) H.size) (cwV as.length hF.2.2.2.2.1 hK0 hw1 hrc hrs ⟨rfl, hK2⟩ ⟨hfr, hlo⟩) ⟨jPc_blind E H.size (.ref b :: as) wc, va_recv hF.2.2.2.2.2.1 hP hc he, fun U hU hW => ⟨rfl, by rw [hU], by rw [hU]; exact hPc, va_K.moved hW.alike hF.2.2.2.2.2.1, hDc.weaken (fun _ _ _ _ => trivial), hF.2.2.2.2.2.2.2.2.2.warm hW⟩⟩ rfl rfl hl.1 rfl (lv_room hcat) hd hcap) hS (fun q _ h => hFc q h) hFc (fun r u t H1 locs1 ht hvm hw hB hz1 hk1 hS1 => ?_)
  subst hw
  obtain ⟨hP1, hD1⟩ := hB
  rw [ht] at hP1
  obtain ⟨hP2, hD2⟩ := jBack ks hP hD hks hlen hput hfst hk1 hP1
  exact kk hF H1 locs1 ls hP2 hD2 hS1 hl
theorem j_callVdP {y : MethodName} {ws : List Cond} {rm : Room} {index : Nat} {as St : List Value} {wc wc' b0 : va_W} {z : UInt64} {b ci N : Nat} {fs : List Value} {T : u_T} (qb q0 : Nat) (ks : List Nat) (pc' : Nat) (b' : va_W) (bs' : List va_W) (hM : jMD E y ws rm (.ref b :: as) wc z wc') (hst : as.reverse ++ .ref b :: S = St) (hK : jKv M index y ws rm as.length) (hb : bs[qb]? = some b0) (he : b0[q0]? = some (b, .inr (ci, fs))) (hc : vwCl[ci]? = some (y.cls, T, N)) (hks : ks.map (fun i => b0[i]?) = wc.map some) (hnd : va_nd ks = true) (hput : jPut b0 ks wc' = b') (hlen : ks.length = wc'.length) (hfst : b'.map Prod.fst = b0.map Prod.fst) (hbs : bs.set qb b' = bs') (hcat : (S.map fun v => v.category).sum ≤ 8) (hcap : k ≤ M.2.2.2.2.2.cells ∧ n ≤ M.2.2.2.2.2.slots) (hd : decode M.1 pc = .ok (.invokevirtual index, 3)) (hn : pc + 3 = pc') (kk : jG M E C Q k n pc' L (.double z :: S) (jFl bs')) : jG M E C Q k n pc L St (jFl bs) := by
  subst hbs
  obtain ⟨off, h1, h2, h3, h4, h5, h6⟩ := jPart ks hb hks hnd hput hlen hfst
  exact j_callVd (off + q0) _ pc' _ hM hst hK (h6 q0 _ he) hc h1 h2 h3 h4 h5 hcat hcap hd hn kk
theorem jT2_blind {A : Nat → Prop} {U : State} (g : JFrame) (mk : MethodId) (a : Array Value) (h : jT2 A U) : jT2 A (U.calling g mk a) := by
  obtain ⟨t1, t2, z1, u1, z2, u2⟩ := h
  have al : U.vm.Alike (U.calling g mk a).vm := Vm.Alike.refl U.vm
  exact ⟨t1, t2, va_Z.moved al z1, va_T.moved al u1, va_Z.moved al z2, va_T.moved al u2⟩
theorem jT2_at {A B : Nat → Prop} {s U : State} {H : Heap} (h : jT2 A s) (hk : ∀ q : Nat, q < s.heap.size → ¬ A q → H[q]? = s.heap[q]?) (hB : ∀ q, B q → A q) (hU : U.heap = H) (hW : s.WarmedH U.vm) : jT2 B U := by
  obtain ⟨t1, t2, z1, u1, z2, u2⟩ := h
  subst hU
  exact ⟨t1, t2, va_Z.moved hW.alike ((z1.kept hk).narrow hB), va_T.moved hW.alike ((u1.kept hk).narrow hB), va_Z.moved hW.alike ((z2.kept hk).narrow hB), va_T.moved hW.alike ((u2.kept hk).narrow hB)⟩
theorem j_callSetB {y : MethodName} {ws : List Cond} {rm : Room} {index : Nat} {as St : List Value} {wc wc' : va_W} {wcs cs : List va_W} {z : Int} {b ci N : Nat} {fs : List Value} {T : u_T} {b0 : va_W}  (qb q0 : Nat) (ks : List Nat) (pc' : Nat) (bs' : List va_W) (hT2 : jT2 (jcA C) (jcS C)) (hM : jMS E y ws rm (.ref b :: as) wc z wc') (hwc : wc = jFl wcs) (hwc' : wc' = jFl cs) (hst : as.reverse ++ .ref b :: S = St) (hK : jKv M index y ws rm as.length) (hb : bs[qb]? = some b0) (he : b0[q0]? = some (b, .inr (ci, fs))) (hc : vwCl[ci]? = some (y.cls, T, N)) (hks : ks.map (fun i => bs[i]?) = wcs.map some) (hnd : va_nd ks = true) (hput : jPutB bs ks cs = bs') (hfst : cs.map (fun b => b.map Prod.fst) = wcs.map (fun b => b.map Prod.fst)) (hcat : (S.map fun v => v.category).sum ≤ 8) (hcap : k ≤ M.2.2.2.2.2.cells ∧ n ≤ M.2.2.2.2.2.slots) (hd : decode M.1 pc = .ok (.invokevirtual index, 3)) (hn : pc + 3 = pc') (kk : jG M E C Q k n pc' L (.int (jI z) :: S) (jFl bs')) : jG M E C Q k n pc L St (jFl bs) := by
  subst hst; subst hn; subst hwc; subst hwc'; subst hput
  intro hF H locs ls hP hD hS hl
  obtain ⟨hK0, ⟨bytes, maxL, ret, ws', hw1, hlo⟩, hK2, hrc, hrs, hfr⟩ := hK
  have hN := va_nd_nodup _ hnd
  obtain ⟨hPc, hDc⟩ := jCut ks hP hD hN hks
  have hFc : ∀ q, va_A (jFl wcs) H.size q → jcA C q := fun q h => by
    rcases h with ⟨i, e, h⟩ | h
    · exact hDc.2 i (q, e) h
    · exact hF.2.2.2.2.2.2.1 q (Nat.le_trans hS.1 h)
  obtain ⟨j0, he1, -⟩ := jFl_at hb he
  refine va_calli (va_runV (As := as) (rest := S) ⟨hF.1, hF.2.1, hF.2.2.1, hF.2.2.2.1, hF.2.2.2.2.1⟩ (hM (jcL C) H.size) (cwV as.length hF.2.2.2.2.1 hK0 hw1 hrc hrs ⟨rfl, hK2⟩ ⟨hfr, hlo⟩) ⟨fun a U g mk q => ⟨jPc_blind E H.size (.ref b :: as) (jFl wcs) a U g mk q.1, jT2_blind g mk a q.2⟩, va_recv hF.2.2.2.2.2.1 hP hc he1, fun U hU hW => ⟨⟨rfl, by rw [hU], by rw [hU]; exact hPc, va_K.moved hW.alike hF.2.2.2.2.2.1, hDc.weaken (fun _ _ _ _ => trivial), hF.2.2.2.2.2.2.2.2.2.warm hW⟩, jT2_at hT2 hS.2.1 hFc hU hW⟩⟩ rfl rfl hl.1 rfl (lv_room hcat) hd hcap) hS (fun q _ h => hFc q h) hFc (fun r u t H1 locs1 ht hvm hw hB hz1 hk1 hS1 => ?_)
  subst hw
  obtain ⟨hP1, hD1⟩ := hB
  rw [ht] at hP1
  obtain ⟨hP2, hD2⟩ := jBackB ks hP hD hN hks hfst hk1 hP1
  exact kk hF H1 locs1 ls hP2 hD2 hS1 hl
end
/-- the law's end -/
theorem j_lret {E : jE} {p : Program} {l : Launch} {e : Env} {s : State} {m : MethodId} {below : List Frame} {meth : Method} {c : Code} {b k n : Nat} {A : Nat → Prop} {L : List (Nat × Value)} {w : va_W} (hAs : ∀ q, A q → s.heap.size ≤ q) (hk : k ≤ 600000 ∧ n ≤ 7302250) : jG mL E (p, l, e, s, m, #[.ref b], below, meth, c, A) (lw_Z below #[.ref b] s) k n 888 L [.int (jI 1)] w := by
  intro hF H locs ls hP hD hS hl
  show W p l e room_1 s m #[.ref b] below meth c H locs k n (lw_Z below #[.ref b] s) (F0 m 888 ls [.int (jI 1)])
  have e1 : jI 1 = 1 := by decide
  rw [e1]
  refine va_forget (fun q hq => hAs _ (hS.2.2 q hq)) ?_
  refine W.widen hk.1 hk.2 ?_
  refine W.base ?_
  exact lw_ret (Drawn.sameBut.refl s.drawn lw_cs) hF.1 hF.2.1 hF.2.2.2.2.2.2.2.1 hF.2.2.2.2.2.2.2.2.1 dL_law_888
/-- how many parts a text has at most -/
theorem rA_few (x : Int → Int) (n : Int) : ∀ (f : Nat) (p b k pn pt : Int) (y z : Int → Int), p ≤ n → (rA x n f p b k pn pt y z).2.2.1 ≤ k + 1 + (n - p) := by
  intro f
  induction f with
  | zero => intro p b k pn pt y z h; unfold rA; dsimp only; omega
  | succ f ih =>
    intro p b k pn pt y z h
    have g := paP_rng (x := x) (n := n) (b := b) (p := p) (pn := pn) (pt := pt) h
    unfold rA
    split
    · dsimp only; omega
    · split
      · dsimp only; omega
      · split
        · dsimp only; omega
        · rename_i h1 h2 h3
          have := (tkP_1 h3).2.1
          have := ih ((paP x n b p pn pt).2.1 + 1) (kdF x n b p) (k + 1) (paP x n b p pn pt).2.2.1 (paP x n b p pn pt).2.2.2 (jU y k (paP x n b p pn pt).2.2.2) (jU z k (kdF x n b p)) (by omega)
          omega
theorem Inv_few {c : Int} {S H : Nat → Nat → Int → Int} {P : Nat → Int → Int} {v : Int → Int} {F : Nat → Int → Int} (h : Inv c S H P v F) (hc : c ≤ 511) {T : tFX} (hT : T = fX 0 (F 4) (F 6 2) 60 0 0 0 (F 5)) : sInv (S 0) (512 - T.2.2.1) := by
  have h8 : P 0 = F 4 := h.2.2.2.2.2.2.1
  have e2 : F 6 2 = v 3 := h.2.2.2.2.1.2.2
  have rv3 := h.1.2.2.2.2.2.1
  have kx := fX_rA (F 4) (v 3) 60 0 0 0 (v 6) 0 (P 1) (P 2) (F 5) (by omega) (by omega) (fun j h0 h1 => absurd h1 (by omega))
  have kf := rA_few (F 4) (v 3) 60 0 0 0 (v 6) 0 (P 1) (P 2) (by omega)
  rw [← e2, ← hT, e2] at kx
  obtain ⟨⟨a, b, d⟩, -⟩ := h.2.1.1
  have k3 := kx.2.2.1
  exact ⟨a, b, by omega⟩
/-! the law's state: a script, a place in it; both sides alike -/
def lOk (C : jC) (b L0 : Nat) (xs : Nat → Int32) (i : Int) : Prop := va_X b L0 xs (jcS C) (jcS C).heap ∧ b < (jcS C).heap.size ∧ ¬ jcA C b ∧ L0 ≤ 3072 ∧ 0 ≤ i ∧ i + 6 ≤ (L0 : Int)
def lGo (E : jE) (C : jC) (Q : State → Prop) (k n b : Nat) (ad qh : Nat → Nat → Nat) (q : Nat → Nat) (i c : Int) : Prop := ∀ (S H : Nat → Nat → Int → Int) (P : Nat → Int → Int) (v : Int → Int) (F : Nat → Int → Int), Inv c S H P v F → jG mL E C Q k n 18 [(3, .int (jI (i + 6))), (2, .ref (q 0)), (1, .ref (ad 7 0)), (0, .ref b)] [] (jFl [wEye E ad qh S H P v, wModel E q F])
section
variable {E : jE} {C : jC} {Q : State → Prop} {k n b : Nat} {ad qh : Nat → Nat → Nat} {q : Nat → Nat} {i c : Int} {S H : Nat → Nat → Int → Int} {P : Nat → Int → Int} {v : Int → Int} {F : Nat → Int → Int}
theorem law_next (go : lGo E C Q k n b ad qh q i (c + 1)) (h : Inv (c + 1) S H P v F) : jG mL E C Q k n 881 [(3, .int (jI i)), (2, .ref (q 0)), (1, .ref (ad 7 0)), (0, .ref b)] [] (jFl [wEye E ad qh S H P v, wModel E q F]) := by
  refine j_iinc 0 884 [_, _, _, _] dL_law_881 rfl rfl (by decide) rfl ?_
  refine j_goto 18 dL_law_884 (by decide) ?_
  exact go S H P v F h
theorem law_nextC {t : cSt} (go : lGo E C Q k n b ad qh q i (c + 1)) (h : InvC (c + 1) t F) : jG mL E C Q k n 881 [(3, .int (jI i)), (2, .ref (q 0)), (1, .ref (ad 7 0)), (0, .ref b)] [] (jFl [wEyeC E ad qh t, wModel E q F]) := law_next go h
end
