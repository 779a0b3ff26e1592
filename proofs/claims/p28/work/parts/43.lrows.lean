/-! the law: its rows -/
abbrev mL : jM := (code, wsL_law, RL, 9, ret, room_1)
theorem jFl_1 (b : va_W) : b = jFl [b] := rfl
def sX (xs : Nat → Int32) (i : Int) : Int := (xs i.toNat).toInt
theorem sX_rng (xs : Nat → Int32) (i : Int) : -2147483648 ≤ sX xs i ∧ sX xs i < 2147483648 := jI_rng _
theorem j_ishr_and {M : jM} {E : jE} {C : jC} {Q : State → Prop} {k n pc : Nat} {L : List (Nat × Value)} {S : List Value} {w : va_W} {a l : Int} (pc1 pc2 pc3 : Nat) (hd1 : decode M.1 pc = .ok (.ishr, 1)) (hd2 : decode M.1 pc1 = .ok (.iconst 1, 1)) (hd3 : decode M.1 pc2 = .ok (.iand, 1)) (hn1 : pc + 1 = pc1) (hn2 : pc1 + 1 = pc2) (hn3 : pc2 + 1 = pc3) (ha : 0 ≤ a ∧ a ≤ 15) (hl : 0 ≤ l ∧ l < 4) (kk : jG M E C Q k n pc3 L (.int (jI (a / 2 ^ l.toNat % 2)) :: S) w) : jG M E C Q k n pc L (.int (jI l) :: .int (jI a) :: S) w := by
  subst hn1; subst hn2; subst hn3
  intro hF H locs ls hP hD hS hl'
  refine lv_ishr hF.1 hF.2.1 hd1 ?_
  refine lv_iconst hF.1 hF.2.1 hd2 rfl ?_
  refine lv_iand hF.1 hF.2.1 hd3 ?_
  have e := jWat a l ha hl
  have e2 : Int32.ofInt 1 = jI 1 := rfl
  rw [e2, e]
  exact kk hF H locs ls hP hD hS hl'
theorem j_ishl_xor {M : jM} {E : jE} {C : jC} {Q : State → Prop} {k n pc : Nat} {L : List (Nat × Value)} {S : List Value} {w : va_W} {a l : Int} (pc1 pc2 : Nat) (hd1 : decode M.1 pc = .ok (.ishl, 1)) (hd2 : decode M.1 pc1 = .ok (.ixor, 1)) (hn1 : pc + 1 = pc1) (hn2 : pc1 + 1 = pc2) (ha : 0 ≤ a ∧ a ≤ 15) (hl : 0 ≤ l ∧ l < 4) (kk : jG M E C Q k n pc2 L (.int (jI (wXor a l)) :: S) w) : jG M E C Q k n pc L (.int (jI l) :: .int (jI 1) :: .int (jI a) :: S) w := by
  subst hn1; subst hn2
  intro hF H locs ls hP hD hS hl'
  refine lv_ishl hF.1 hF.2.1 hd1 ?_
  refine lv_ixor hF.1 hF.2.1 hd2 ?_
  rw [(jXor a l ha hl).1.1]
  exact kk hF H locs ls hP hD hS hl'
section
variable {M : jM} {E : jE} {C : jC} {Q : State → Prop} {k n pc : Nat} {L : List (Nat × Value)} {S : List Value} {w : va_W}
theorem j_sld {b L0 : Nat} {xs : Nat → Int32} {i : Int} (pc' : Nat) (hX : va_X b L0 xs (jcS C) (jcS C).heap) (hbl : b < (jcS C).heap.size) (hbA : ¬ jcA C b) (hL0 : L0 < 2147483648) (hi : 0 ≤ i ∧ i < (L0 : Int)) (hd : decode M.1 pc = .ok (.iaload, 1)) (hn : pc + 1 = pc') (kk : jG M E C Q k n pc' L (.int (jI (sX xs i)) :: S) w) : jG M E C Q k n pc L (.int (jI i) :: .ref b :: S) w := by
  subst hn
  intro hF H locs ls hP hD hS hl
  refine va_sld hF.1 hF.2.1 hX hbl hbA hS (jI_in hi hL0) hd ?_
  have e : xs (jI i).toNatClampNeg = jI (sX xs i) := by
    rw [jI_clamp ⟨hi.1, by omega⟩]
    exact (jI_self _).symm
  rw [e]
  exact kk hF H locs ls hP hD hS hl
theorem j_slen {b L0 : Nat} {xs : Nat → Int32} (pc' : Nat) (hX : va_X b L0 xs (jcS C) (jcS C).heap) (hbl : b < (jcS C).heap.size) (hbA : ¬ jcA C b) (hL0 : L0 < 2147483648) (hd : decode M.1 pc = .ok (.arraylength, 1)) (hn : pc + 1 = pc') (kk : jG M E C Q k n pc' L (.int (jI (L0 : Int)) :: S) w) : jG M E C Q k n pc L (.ref b :: S) w := by
  subst hn
  intro hF H locs ls hP hD hS hl
  refine va_slen hF.1 hF.2.1 hX hbl hbA hS hd ?_
  have e : Int32.ofNat L0 = jI (L0 : Int) := by
    have h := jI_self (nI L0)
    rw [nI_toInt (by omega)] at h
    exact h.symm
  rw [e]
  exact kk hF H locs ls hP hD hS hl
theorem j_same {x y off : Int} (tgt : Nat) (hd : decode M.1 pc = .ok (.if_icmp .eq off, 3)) (ht : (pc : Int) + off = (tgt : Int)) (h : y = x) (kk : jG M E C Q k n tgt L S w) : jG M E C Q k n pc L (.int (jI y) :: .int (jI x) :: S) w := by
  subst h
  exact fun hF H locs ls hP hD hS hl => lv_icmp_eq hF.1 hF.2.1 hd ht (fun _ => kk hF H locs ls hP hD hS hl) (fun q => absurd rfl q)
theorem j_dload {i : Nat} {x : UInt64} (q pc' : Nat) (hd : decode M.1 pc = .ok (.dload i, 2)) (hn : pc + 2 = pc') (hl : L[q]? = some (i, .double x)) (kk : jG M E C Q k n pc' L (.double x :: S) w) : jG M E C Q k n pc L S w := by
  subst hn
  exact fun hF H locs ls hP hD hS hl' => lv_dload hF.1 hF.2.1 hd (lv_at hl' q hl) (kk hF H locs ls hP hD hS hl')
theorem j_dstore {i : Nat} {x : UInt64} (pc' : Nat) (L' : List (Nat × Value)) (hd : decode M.1 pc = .ok (.dstore i, 2)) (hn : pc + 2 = pc') (hi : i + 1 < M.2.2.2.1) (hl : (i, Value.double x) :: L.filter (fun q => !(q.1 == i) && (!(q.1 == i + 1) && !(q.1 + 1 == i && q.2.category == 2))) = L') (kk : jG M E C Q k n pc' L' S w) : jG M E C Q k n pc L (.double x :: S) w := by
  subst hn
  exact fun hF H locs ls hP hD hS hl' => lv_dstore hF.1 hF.2.1 hd hl' hi hl (fun ls' h' => kk hF H locs ls' hP hD hS h')
/-- two doubles compared: the answer is a number -/
def dC (x y : UInt64) : Int := (Op.cmpValue (FP.dcmp x y) .l).toInt
theorem j_dcmp {x y : UInt64} (pc' : Nat) (hd : decode M.1 pc = .ok (.dcmp .l, 1)) (hn : pc + 1 = pc') (kk : jG M E C Q k n pc' L (.int (jI (dC x y)) :: S) w) : jG M E C Q k n pc L (.double y :: .double x :: S) w := by
  subst hn
  intro hF H locs ls hP hD hS hl
  refine lv_dcmp hF.1 hF.2.1 hd ?_
  have h := kk hF H locs ls hP hD hS hl
  rw [show jI (dC x y) = Op.cmpValue (FP.dcmp x y) .l from jI_self _] at h
  exact h
theorem dC_rng (x y : UInt64) : -2147483648 ≤ dC x y ∧ dC x y < 2147483648 := jI_rng _
variable {bs : List va_W}
theorem j_callVdB {y : MethodName} {ws : List Cond} {rm : Room} {index : Nat} {as St : List Value} {wc wc' : va_W} {wcs cs : List va_W} {z : UInt64} {b ci N : Nat} {fs : List Value} {T : u_T} {b0 : va_W}  (qb q0 : Nat) (ks : List Nat) (pc' : Nat) (bs' : List va_W) (hM : jMD E y ws rm (.ref b :: as) wc z wc') (hwc : wc = jFl wcs) (hwc' : wc' = jFl cs) (hst : as.reverse ++ .ref b :: S = St) (hK : jKv M index y ws rm as.length) (hb : bs[qb]? = some b0) (he : b0[q0]? = some (b, .inr (ci, fs))) (hc : vwCl[ci]? = some (y.cls, T, N)) (hks : ks.map (fun i => bs[i]?) = wcs.map some) (hnd : va_nd ks = true) (hput : jPutB bs ks cs = bs') (hfst : cs.map (fun b => b.map Prod.fst) = wcs.map (fun b => b.map Prod.fst)) (hcat : (S.map fun v => v.category).sum ≤ 8) (hcap : k ≤ M.2.2.2.2.2.cells ∧ n ≤ M.2.2.2.2.2.slots) (hd : decode M.1 pc = .ok (.invokevirtual index, 3)) (hn : pc + 3 = pc') (kk : jG M E C Q k n pc' L (.double z :: S) (jFl bs')) : jG M E C Q k n pc L St (jFl bs) := by
  subst hst; subst hn; subst hwc; subst hwc'; subst hput
  intro hF H locs ls hP hD hS hl
  obtain ⟨hK0, ⟨bytes, maxL, ret, ws', hw1, hlo⟩, hK2, hrc, hrs, hfr⟩ := hK
  have hN := va_nd_nodup _ hnd
  obtain ⟨hPc, hDc⟩ := jCut ks hP hD hN hks
  have hFc : ∀ q, va_A (jFl wcs) H.size q → jcA C q := fun q h => by
    rcases h with ⟨i, e, h⟩ | h
    · exact hDc.2 i (q, e) h
    · exact hF.2.2.2.2.2.2.1 q (Nat.le_trans hS.1 h)
  obtain ⟨j0, he1, -⟩ := jFl_at hb he
  refine va_calld (va_runV (As := as) (rest := S) ⟨hF.1, hF.2.1, hF.2.2.1, hF.2.2.2.1, hF.2.2.2.2.1⟩ (hM (jcL C) H.size) (cwV as.length hF.2.2.2.2.1 hK0 hw1 hrc hrs ⟨rfl, hK2⟩ ⟨hfr, hlo⟩) ⟨jPc_blind E H.size (.ref b :: as) (jFl wcs), va_recv hF.2.2.2.2.2.1 hP hc he1, fun U hU hW => ⟨rfl, by rw [hU], by rw [hU]; exact hPc, va_K.moved hW.alike hF.2.2.2.2.2.1, hDc.weaken (fun _ _ _ _ => trivial), hF.2.2.2.2.2.2.2.2.2.warm hW⟩⟩ rfl rfl hl.1 rfl (lv_room hcat) hd hcap) hS (fun q _ h => hFc q h) hFc (fun r u t H1 locs1 ht hvm hw hB hz1 hk1 hS1 => ?_)
  subst hw
  obtain ⟨hP1, hD1⟩ := hB
  rw [ht] at hP1
  obtain ⟨hP2, hD2⟩ := jBackB ks hP hD hN hks hfst hk1 hP1
  exact kk hF H1 locs1 ls hP2 hD2 hS1 hl
theorem jT2_blind {A : Nat → Prop} {U : State} (g : JFrame) (mk : MethodId) (a : Array Value) (h : jT2 A U) : jT2 A (U.calling g mk a) := by
  obtain ⟨t1, t2, z1, u1, z2, u2⟩ := h
  have al : U.vm.Alike (U.calling g mk a).vm := Vm.Alike.refl U.vm
  exact ⟨t1, t2, va_Z.moved al z1, va_T.moved al u1, va_Z.moved al z2, va_T.moved al u2⟩
theorem jT2_at {A B : Nat → Prop} {s U : State} {H : Heap} (h : jT2 A s) (hk : ∀ q : Nat, q < s.heap.size → ¬ A q → H[q]? = s.heap[q]?) (hB : ∀ q, B q → A q) (hU : U.heap = H) (hW : s.WarmedH U.vm) : jT2 B U := by
  obtain ⟨t1, t2, z1, u1, z2, u2⟩ := h
  subst hU
  exact ⟨t1, t2, va_Z.moved hW.alike ((z1.kept hk).narrow hB), va_T.moved hW.alike ((u1.kept hk).narrow hB), va_Z.moved hW.alike ((z2.kept hk).narrow hB), va_T.moved hW.alike ((u2.kept hk).narrow hB)⟩
theorem j_callSetB {y : MethodName} {ws : List Cond} {rm : Room} {index : Nat} {as St : List Value} {wc wc' : va_W} {wcs cs : List va_W} {z : Int} {b ci N : Nat} {fs : List Value} {T : u_T} {b0 : va_W}  (qb q0 : Nat) (ks : List Nat) (pc' : Nat) (bs' : List va_W) (hT2 : jT2 (jcA C) (jcS C)) (hM : jMS E y ws rm (.ref b :: as) wc z wc') (hwc : wc = jFl wcs) (hwc' : wc' = jFl cs) (hst : as.reverse ++ .ref b :: S = St) (hK : jKv M index y ws rm as.length) (hb : bs[qb]? = some b0) (he : b0[q0]? = some (b, .inr (ci, fs))) (hc : vwCl[ci]? = some (y.cls, T, N)) (hks : ks.map (fun i => bs[i]?) = wcs.map some) (hnd : va_nd ks = true) (hput : jPutB bs ks cs = bs') (hfst : cs.map (fun b => b.map Prod.fst) = wcs.map (fun b => b.map Prod.fst)) (hcat : (S.map fun v => v.category).sum ≤ 8) (hcap : k ≤ M.2.2.2.2.2.cells ∧ n ≤ M.2.2.2.2.2.slots) (hd : decode M.1 pc = .ok (.invokevirtual index, 3)) (hn : pc + 3 = pc') (kk : jG M E C Q k n pc' L (.int (jI z) :: S) (jFl bs')) : jG M E C Q k n pc L St (jFl bs) := by
  subst hst; subst hn; subst hwc; subst hwc'; subst hput
  intro hF H locs ls hP hD hS hl
  obtain ⟨hK0, ⟨bytes, maxL, ret, ws', hw1, hlo⟩, hK2, hrc, hrs, hfr⟩ := hK
  have hN := va_nd_nodup _ hnd
  obtain ⟨hPc, hDc⟩ := jCut ks hP hD hN hks
  have hFc : ∀ q, va_A (jFl wcs) H.size q → jcA C q := fun q h => by
    rcases h with ⟨i, e, h⟩ | h
    · exact hDc.2 i (q, e) h
    · exact hF.2.2.2.2.2.2.1 q (Nat.le_trans hS.1 h)
  obtain ⟨j0, he1, -⟩ := jFl_at hb he
  refine va_calli (va_runV (As := as) (rest := S) ⟨hF.1, hF.2.1, hF.2.2.1, hF.2.2.2.1, hF.2.2.2.2.1⟩ (hM (jcL C) H.size) (cwV as.length hF.2.2.2.2.1 hK0 hw1 hrc hrs ⟨rfl, hK2⟩ ⟨hfr, hlo⟩) ⟨fun a U g mk q => ⟨jPc_blind E H.size (.ref b :: as) (jFl wcs) a U g mk q.1, jT2_blind g mk a q.2⟩, va_recv hF.2.2.2.2.2.1 hP hc he1, fun U hU hW => ⟨⟨rfl, by rw [hU], by rw [hU]; exact hPc, va_K.moved hW.alike hF.2.2.2.2.2.1, hDc.weaken (fun _ _ _ _ => trivial), hF.2.2.2.2.2.2.2.2.2.warm hW⟩, jT2_at hT2 hS.2.1 hFc hU hW⟩⟩ rfl rfl hl.1 rfl (lv_room hcat) hd hcap) hS (fun q _ h => hFc q h) hFc (fun r u t H1 locs1 ht hvm hw hB hz1 hk1 hS1 => ?_)
  subst hw
  obtain ⟨hP1, hD1⟩ := hB
  rw [ht] at hP1
  obtain ⟨hP2, hD2⟩ := jBackB ks hP hD hN hks hfst hk1 hP1
  exact kk hF H1 locs1 ls hP2 hD2 hS1 hl
end
theorem nx_and (a b : Nat) : nI a &&& nI b = nI (a &&& b) := by
  apply Int32.toBitVec_inj.1
  show BitVec.ofNat 32 a &&& BitVec.ofNat 32 b = BitVec.ofNat 32 (a &&& b)
  apply BitVec.eq_of_getLsbD_eq
  intro i hi
  simp [hi]
theorem wb_of32 (x : Int32) : ∃ n, n < 2 ^ 32 ∧ x = nI n := ⟨x.toBitVec.toNat, x.toBitVec.isLt, Int32.toBitVec_inj.mp (by show _ = BitVec.ofNat 32 _; simp)⟩
theorem j_maskN (x : Int) : ∃ z : Int, (0 ≤ z ∧ z < 2147483648) ∧ jI x &&& jI 2147483647 = jI z := by
  obtain ⟨k, -, e⟩ := wb_of32 (jI x)
  have e2 : jI 2147483647 = nI 2147483647 := by decide
  have hm : k &&& 2147483647 ≤ 2147483647 := Nat.and_le_right
  have e3 : jI x &&& jI 2147483647 = nI (k &&& 2147483647) := by rw [e, e2, nx_and]
  have h := jI_self (nI (k &&& 2147483647))
  rw [nI_toInt (by omega)] at h
  exact ⟨((k &&& 2147483647 : Nat) : Int), by omega, by rw [e3, h]⟩
section
variable {M : jM} {E : jE} {C : jC} {Q : State → Prop} {k n pc : Nat} {L : List (Nat × Value)} {S : List Value} {w : va_W}
theorem j_mask {x : Int} (pc' : Nat) (hd : decode M.1 pc = .ok (.iand, 1)) (hn : pc + 1 = pc') (kk : ∀ z : Int, 0 ≤ z ∧ z < 2147483648 → jG M E C Q k n pc' L (.int (jI z) :: S) w) : jG M E C Q k n pc L (.int (jI 2147483647) :: .int (jI x) :: S) w := by
  subst hn
  intro hF H locs ls hP hD hS hl
  refine lv_iand hF.1 hF.2.1 hd ?_
  obtain ⟨z, hz, e⟩ := j_maskN x
  rw [e]
  exact kk z hz hF H locs ls hP hD hS hl
/-- numbers that are equal: no jump -/
theorem j_eqn {a b off : Int} (pc' : Nat) (hd : decode M.1 pc = .ok (.if_icmp .ne off, 3)) (hn : pc + 3 = pc') (h : a = b) (hg : ∃ tgt : Nat, (pc : Int) + off = (tgt : Int)) (kk : jG M E C Q k n pc' L S w) : jG M E C Q k n pc L (.int (jI b) :: .int (jI a) :: S) w := by
  subst hn; subst h
  obtain ⟨tgt, ht⟩ := hg
  exact fun hF H locs ls hP hD hS hl => lv_icmp_ne hF.1 hF.2.1 hd ht (fun q => absurd rfl q) (fun _ => kk hF H locs ls hP hD hS hl)
theorem j_ldc {index : Nat} {v : Int32} {x : Int} (pc' : Nat) (hc : Cond.constant M.2.2.1 index v ∈ M.2.1) (hv : v = jI x) (hd : decode M.1 pc = .ok (.ldc index, 2)) (hn : pc + 2 = pc') (kk : jG M E C Q k n pc' L (.int (jI x) :: S) w) : jG M E C Q k n pc L S w := by
  subst hn; subst hv
  intro hF H locs ls hP hD hS hl
  exact W.ldc hF.1 hF.2.1 hF.2.2.2.1 (hF.2.2.2.2.1 _ hc) rfl hd (kk hF H locs ls hP hD hS hl)
theorem j_aload {i : Nat} {x : Nat} (q pc' : Nat) (hd : decode M.1 pc = .ok (.aload i, 2)) (hn : pc + 2 = pc') (hl : L[q]? = some (i, .ref x)) (kk : jG M E C Q k n pc' L (.ref x :: S) w) : jG M E C Q k n pc L S w := by
  subst hn
  exact fun hF H locs ls hP hD hS hl' => lv_aload hF.1 hF.2.1 hd (lv_at hl' q hl) (kk hF H locs ls hP hD hS hl')
theorem j_astore {i : Nat} {x : Nat} (pc' : Nat) (L' : List (Nat × Value)) (hd : decode M.1 pc = .ok (.astore i, 2)) (hn : pc + 2 = pc') (hi : i < M.2.2.2.1) (hl : (i, Value.ref x) :: L.filter (fun q => !(q.1 == i) && !(q.1 + 1 == i && q.2.category == 2)) = L') (kk : jG M E C Q k n pc' L' S w) : jG M E C Q k n pc L (.ref x :: S) w := by
  subst hn
  exact fun hF H locs ls hP hD hS hl' => lv_astore hF.1 hF.2.1 hd hl' hi hl (fun ls' h' => kk hF H locs ls' hP hD hS h')
end
/-! contracts whose world behind comes with the answer; X is what the start asks besides -/
def jXok (X : (Nat → Prop) → State → Prop) : Prop := (∀ (A : Nat → Prop) (U : State) (g : JFrame) (mk : MethodId) (a : Array Value), X A U → X A (U.calling g mk a)) ∧ ∀ (A B : Nat → Prop) (s U : State) (H : Heap), X A s → (∀ q : Nat, q < s.heap.size → ¬ A q → H[q]? = s.heap[q]?) → (∀ q, B q → A q) → U.heap = H → s.WarmedH U.vm → X B U
def jMX {T : Type} (X : (Nat → Prop) → State → Prop) (E : jE) (y : MethodName) (ws : List Cond) (rm : Room) (as : List Value) (w : va_W) (G : T → Prop) (z : T → Int) (B : T → va_W) : Prop := ∀ (l : Launch) (sz : Nat), Met l y ws rm (fun a U => jPc E sz as w a U ∧ X (va_A w sz) U) (va_Qi (fun (r : Int32) (u : T) => r = jI (z u) ∧ G u) (fun u t => jAt E (va_A w sz) (B u) t) (va_A w sz)) 0 0 (va_A w sz)
def jQx {T : Type} (E : jE) (C : jC) (G : T → Prop) (z : T → Int) (B : T → va_W) : State → Prop := MQ (jcB C) (va_Qi (fun (r : Int32) (u : T) => r = jI (z u) ∧ G u) (fun u t => jAt E (jcA C) (B u) t) (jcA C)) (jcR C) (jcS C) 0 0 (jcA C)
def jX0 : (Nat → Prop) → State → Prop := fun _ _ => True
theorem jX0_ok : jXok jX0 := ⟨fun _ _ _ _ _ _ => trivial, fun _ _ _ _ _ _ _ _ _ _ => trivial⟩
theorem jT2_ok : jXok jT2 := ⟨fun _ _ g mk a h => jT2_blind g mk a h, fun _ _ _ _ _ h hk hB hU hW => jT2_at h hk hB hU hW⟩
def jXs (b L0 : Nat) (xs : Nat → Int32) : (Nat → Prop) → State → Prop := fun A U => va_X b L0 xs U U.heap ∧ b < U.heap.size ∧ ¬ A b
theorem jXs_ok (b L0 : Nat) (xs : Nat → Int32) : jXok (jXs b L0 xs) := by
  refine ⟨fun A U g mk a h => ?_, fun A B s U H h hk hB hU hW => ?_⟩
  · have al : U.vm.Alike (U.calling g mk a).vm := Vm.Alike.refl U.vm
    exact ⟨va_X.moved al h.1, h.2.1, h.2.2⟩
  · obtain ⟨h1, h2, h3⟩ := h
    subst hU
    have e := hk b h2 h3
    refine ⟨va_X.moved hW.alike (h1.kept e), ?_, fun q => h3 (hB b q)⟩
    have e2 : s.heap[b]? = some s.heap[b] := Array.getElem?_eq_getElem h2
    rw [e2] at e
    exact (Array.getElem?_eq_some_iff.mp e).1
theorem jMX_of {T : Type} {X : (Nat → Prop) → State → Prop} {E : jE} {cc : ByteArray} {y : MethodName} {ws ws' : List Cond} {rm : Room} {maxL : Nat} {ret : Option FieldType} {as : List Value} {w : va_W} {G : T → Prop} {z : T → Int} {B : T → va_W} (L0 : List (Nat × Value)) (hy : plainName y.cls = true) (hw : ws = Cond.code y cc maxL ret :: ws') (hL : lv_args 0 as = L0) (hn : (lg_sl as).length ≤ maxL) (h : ∀ C : jC, X (jcA C) (jcS C) → jG (cc, ws, y.cls, maxL, ret, rm) E C (jQx E C G z B) 0 0 0 L0 [] w) : jMX X E y ws rm as w G z B := by
  intro l sz
  refine Met.ofW (cc := cc) (maxL := maxL) (ret := ret) hy hw ?_
  intro p e s m args below meth c s₁ Y hml hv
  obtain ⟨⟨rfl, hsz, hP, hK, hD0, hN⟩, hT⟩ := hv
  subst hsz
  have hD := hD0.self (sz := s.heap.size)
  have hl := lv_entry as (n := maxL) hn
  rw [lg_entry_eq]
  rw [hL] at hl
  exact h (p, l, e, s, m, as.toArray, below, meth, c, va_A w s.heap.size) hT ⟨Y.exec, Y.bytes, hml, findClass_of_methodNamed Y.named, atoms_spec (ws := ws) Y.pre, hK, fun q hq => Or.inr hq, Y.returns, Y.notSynchronized, hN⟩ s.heap [] _ hP hD va_S.rf hl
section
variable {T : Type} {M : jM} {E : jE} {C : jC} {Q : State → Prop} {k n pc : Nat} {L : List (Nat × Value)} {S : List Value} {w : va_W} {bs : List va_W} {X : (Nat → Prop) → State → Prop} {G : T → Prop} {z : T → Int} {B : T → va_W}
theorem j_xret {v : Int} (u : T) (hd : decode M.1 pc = .ok (.ireturn, 1)) (hr : M.2.2.2.2.1 = some .int) (hv : v = z u) (hG : G u) (hw : w = B u) : jG M E C (jQx E C G z B) 0 0 pc L [.int (jI v)] w := by
  subst hw; subst hv
  intro hF H locs ls hP hD hS hl
  exact W.iret hF.1 hF.2.1 (hF.2.2.2.2.2.2.2.1.trans hr) (fun t ht hW => ⟨⟨jI (z u), u, rfl, ⟨rfl, hG⟩, by rw [ht]; exact hP, hD⟩, hS.F ht⟩) hS.2.2 hd (hlocks := hF.2.2.2.2.2.2.2.2.1)
theorem j_xzret {v : Int} (u : T) (hd : decode M.1 pc = .ok (.ireturn, 1)) (hr : M.2.2.2.2.1 = some .boolean) (hv : v = z u) (h01 : v = 0 ∨ v = 1) (hG : G u) (hw : w = B u) : jG M E C (jQx E C G z B) 0 0 pc L [.int (jI v)] w := by
  subst hw; subst hv
  intro hF H locs ls hP hD hS hl
  exact W.zret hF.1 hF.2.1 (hF.2.2.2.2.2.2.2.1.trans hr) (jB_nar2 h01) (fun t ht hW => ⟨⟨jI (z u), u, rfl, ⟨rfl, hG⟩, by rw [ht]; exact hP, hD⟩, hS.F ht⟩) hS.2.2 hd (hlocks := hF.2.2.2.2.2.2.2.2.1)
theorem j_callSxB {y : MethodName} {ws : List Cond} {rm : Room} {index : Nat} {as St : List Value} {wc : va_W} {wcs : List va_W} {Bs : T → List va_W} (ks : List Nat) (pc' : Nat) (bs' : T → List va_W) (hX : jXok X) (hT : X (jcA C) (jcS C)) (hM : jMX X E y ws rm as wc G z B) (hwc : wc = jFl wcs) (hwB : ∀ u, B u = jFl (Bs u)) (hst : as.reverse ++ S = St) (hK : jKs M index y ws rm as.length) (hks : ks.map (fun i => bs[i]?) = wcs.map some) (hnd : va_nd ks = true) (hput : ∀ u, jPutB bs ks (Bs u) = bs' u) (hfst : ∀ u, (Bs u).map (fun b => b.map Prod.fst) = wcs.map (fun b => b.map Prod.fst)) (hcat : (S.map fun v => v.category).sum ≤ 8) (hcap : k ≤ M.2.2.2.2.2.cells ∧ n ≤ M.2.2.2.2.2.slots) (hd : decode M.1 pc = .ok (.invokestatic index, 3)) (hn : pc + 3 = pc') (kk : ∀ u : T, G u → jG M E C Q k n pc' L (.int (jI (z u)) :: S) (jFl (bs' u))) : jG M E C Q k n pc L St (jFl bs) := by
  subst hst; subst hn; subst hwc
  intro hF H locs ls hP hD hS hl
  obtain ⟨hK0, ⟨bytes, maxL, ret, ws', hw1, hlo⟩, hK2, hrc, hrs, hfr⟩ := hK
  have hN := va_nd_nodup _ hnd
  obtain ⟨hPc, hDc⟩ := jCut ks hP hD hN hks
  have hFc : ∀ q, va_A (jFl wcs) H.size q → jcA C q := fun q h => by
    rcases h with ⟨i, e, h⟩ | h
    · exact hDc.2 i (q, e) h
    · exact hF.2.2.2.2.2.2.1 q (Nat.le_trans hS.1 h)
  refine va_calli (va_runS (As := as) (rest := S) ⟨hF.1, hF.2.1, hF.2.2.1, hF.2.2.2.1, hF.2.2.2.2.1⟩ (hM (jcL C) H.size) (va_cwS as.length hF.2.2.2.2.1 hK0 hw1 hrc hrs hK2 ⟨hfr, hlo⟩) ⟨fun a U g mk q => ⟨jPc_blind E H.size as (jFl wcs) a U g mk q.1, hX.1 _ _ g mk a q.2⟩, fun U hU hW => ⟨⟨rfl, by rw [hU], by rw [hU]; exact hPc, va_K.moved hW.alike hF.2.2.2.2.2.1, hDc.weaken (fun _ _ _ _ => trivial), hF.2.2.2.2.2.2.2.2.2.warm hW⟩, hX.2 _ _ _ _ _ hT hS.2.1 hFc hU hW⟩⟩ rfl rfl hl.1 rfl (lv_room hcat) hd hcap) hS (fun q _ h => hFc q h) hFc (fun r u t H1 locs1 ht hvm hw hB hz1 hk1 hS1 => ?_)
  obtain ⟨hw, hG⟩ := hw
  subst hw
  obtain ⟨hP1, hD1⟩ := hB
  rw [ht, hwB u] at hP1
  obtain ⟨hP2, hD2⟩ := jBackB ks hP hD hN hks (hfst u) hk1 hP1
  have g := kk u hG
  rw [← hput u] at g
  exact g hF H1 locs1 ls hP2 hD2 hS1 hl
end
