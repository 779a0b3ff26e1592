/-! an answer that is a double -/
def jMD (E : jE) (y : MethodName) (ws : List Cond) (rm : Room) (as : List Value) (w : va_W) (z : UInt64) (w' : va_W) : Prop := ∀ (l : Launch) (sz : Nat), Met l y ws rm (jPc E sz as w) (va_Qd (fun (r : UInt64) (_ : Unit) => r = z) (fun _ t => jAt E (va_A w sz) w' t) (va_A w sz)) 0 0 (va_A w sz)
def jQd (E : jE) (C : jC) (z : UInt64) (w' : va_W) : State → Prop := MQ (jcB C) (va_Qd (fun (r : UInt64) (_ : Unit) => r = z) (fun _ t => jAt E (jcA C) w' t) (jcA C)) (jcR C) (jcS C) 0 0 (jcA C)
theorem jMD_of {E : jE} {cc : ByteArray} {y : MethodName} {ws ws' : List Cond} {rm : Room} {maxL : Nat} {ret : Option FieldType} {as : List Value} {w w' : va_W} {z : UInt64} (L0 : List (Nat × Value)) (hy : plainName y.cls = true) (hw : ws = Cond.code y cc maxL ret :: ws') (hL : lv_args 0 as = L0) (hn : (lg_sl as).length ≤ maxL) (h : ∀ C : jC, jG (cc, ws, y.cls, maxL, ret, rm) E C (jQd E C z w') 0 0 0 L0 [] w) : jMD E y ws rm as w z w' := by
  intro l sz
  refine Met.ofW (cc := cc) (maxL := maxL) (ret := ret) hy hw ?_
  intro p e s m args below meth c s₁ B hml hv
  obtain ⟨rfl, hsz, hP, hK, hD0, hN⟩ := hv
  subst hsz
  have hD := hD0.self (sz := s.heap.size)
  have hl := lv_entry as (n := maxL) hn
  rw [lg_entry_eq]
  rw [hL] at hl
  exact h (p, l, e, s, m, as.toArray, below, meth, c, va_A w s.heap.size) ⟨B.exec, B.bytes, hml, findClass_of_methodNamed B.named, atoms_spec (ws := ws) B.pre, hK, fun q hq => Or.inr hq, B.returns, B.notSynchronized, hN⟩ s.heap [] _ hP hD va_S.rf hl
section
variable {M : jM} {E : jE} {C : jC} {Q : State → Prop} {k n pc : Nat} {L : List (Nat × Value)} {S : List Value} {w : va_W}
theorem j_dret {v z : UInt64} {w' : va_W} (hd : decode M.1 pc = .ok (.dreturn, 1)) (hr : M.2.2.2.2.1 = some .double) (hv : v = z) (hw : w = w') : jG M E C (jQd E C z w') 0 0 pc L [.double v] w := by
  subst hv; subst hw
  intro hF H locs ls hP hD hS hl
  exact W.dret hF.1 hF.2.1 (hF.2.2.2.2.2.2.2.1.trans hr) (fun t ht hW => ⟨⟨v, (), rfl, rfl, by rw [ht]; exact hP, hD⟩, hS.F ht⟩) hS.2.2 hd (hlocks := hF.2.2.2.2.2.2.2.2.1)
theorem j_dconst1 (pc' : Nat) (hd : decode M.1 pc = .ok (.dconst 1, 1)) (hn : pc + 1 = pc') (kk : jG M E C Q k n pc' L (.double 0x3ff0000000000000 :: S) w) : jG M E C Q k n pc L S w := by
  subst hn
  exact fun hF H locs ls hP hD hS hl => lv_dconst1 hF.1 hF.2.1 hd (kk hF H locs ls hP hD hS hl)
theorem j_i2d {a : Int} (pc' : Nat) (hd : decode M.1 pc = .ok (.i2d, 1)) (hn : pc + 1 = pc') (kk : jG M E C Q k n pc' L (.double (FP.i2d (jI a)) :: S) w) : jG M E C Q k n pc L (.int (jI a) :: S) w := by
  subst hn
  exact fun hF H locs ls hP hD hS hl => lv_i2d hF.1 hF.2.1 hd (kk hF H locs ls hP hD hS hl)
theorem j_ddiv {a b : Int} (pc' : Nat) (hd : decode M.1 pc = .ok (.ddiv, 1)) (hn : pc + 1 = pc') (ha : 0 ≤ a ∧ a ≤ 80) (hb : 1 ≤ b ∧ b ≤ 80) (kk : jG M E C Q k n pc' L (.double (FP.ddiv (FP.i2d (jI a)) (FP.i2d (jI b))) :: S) w) : jG M E C Q k n pc L (.double (FP.i2d (jI b)) :: .double (FP.i2d (jI a)) :: S) w := by
  subst hn
  exact fun hF H locs ls hP hD hS hl => lv_ddiv hF.1 hF.2.1 hd (jDn a b ha hb) (kk hF H locs ls hP hD hS hl)
theorem j_dload_n {i : Fin 4} {x : UInt64} (q pc' : Nat) (hd : decode M.1 pc = .ok (.dload_n i, 1)) (hn : pc + 1 = pc') (hl : L[q]? = some ((i : Nat), .double x)) (kk : jG M E C Q k n pc' L (.double x :: S) w) : jG M E C Q k n pc L S w := by
  subst hn
  exact fun hF H locs ls hP hD hS hl' => lv_dload_n hF.1 hF.2.1 hd rfl (lv_at hl' q hl) (kk hF H locs ls hP hD hS hl')
theorem j_dstore_n {i : Fin 4} {x : UInt64} (pc' : Nat) (L' : List (Nat × Value)) (hd : decode M.1 pc = .ok (.dstore_n i, 1)) (hn : pc + 1 = pc') (hi : (i : Nat) + 1 < M.2.2.2.1) (hl : ((i : Nat), Value.double x) :: L.filter (fun q => !(q.1 == (i : Nat)) && (!(q.1 == (i : Nat) + 1) && !(q.1 + 1 == (i : Nat) && q.2.category == 2))) = L') (kk : jG M E C Q k n pc' L' S w) : jG M E C Q k n pc L (.double x :: S) w := by
  subst hn
  exact fun hF H locs ls hP hD hS hl' => lv_dstore_n hF.1 hF.2.1 hd rfl hl' hi hl (fun ls' h' => kk hF H locs ls' hP hD hS h')
end
/-- the share of the right ones -/
def shD1 (a b : Int) : UInt64 := if b = 0 then 0x3ff0000000000000 else FP.ddiv (FP.i2d (jI (b - a))) (FP.i2d (jI b))
