abbrev vwCl : List vw_C := [(RX0, TX0, 3), (RX1, TX1, 3), (RX2, TX2, 2), (RX3, TX3, 3), (RX4, TX4, 8), (RX5, TX5, 11), (RX7, TX7, 6)]
/-! numbers as the machine holds them -/
def jI (z : Int) : Int32 := Int32.ofInt z
theorem jI_toInt {z : Int} (h : -2147483648 ≤ z ∧ z < 2147483648) : (jI z).toInt = z := Int32.toInt_ofInt_of_le h.1 h.2
theorem jI_add (a b : Int) : jI a + jI b = jI (a + b) := (Int32.ofInt_add a b).symm
theorem jI_sub (a b : Int) : jI a - jI b = jI (a - b) := (Int32.ofInt_sub a b).symm
theorem jI_mul (a b : Int) : jI a * jI b = jI (a * b) := (Int32.ofInt_mul a b).symm
theorem jI_self (x : Int32) : jI x.toInt = x := Int32.ofInt_toInt x
theorem jI_rng (x : Int32) : -2147483648 ≤ x.toInt ∧ x.toInt < 2147483648 := ⟨x.le_toInt, x.toInt_lt⟩
theorem jI_lt {a b : Int} (ha : -2147483648 ≤ a ∧ a < 2147483648) (hb : -2147483648 ≤ b ∧ b < 2147483648) : jI a < jI b ↔ a < b := by
  rw [Int32.lt_iff_toInt_lt, jI_toInt ha, jI_toInt hb]
theorem jI_le {a b : Int} (ha : -2147483648 ≤ a ∧ a < 2147483648) (hb : -2147483648 ≤ b ∧ b < 2147483648) : jI a ≤ jI b ↔ a ≤ b := by
  rw [Int32.le_iff_toInt_le, jI_toInt ha, jI_toInt hb]
theorem jI_eq {a b : Int} (ha : -2147483648 ≤ a ∧ a < 2147483648) (hb : -2147483648 ≤ b ∧ b < 2147483648) : jI a = jI b ↔ a = b := by
  rw [← Int32.toInt_inj, jI_toInt ha, jI_toInt hb]
theorem jI_0 : (0 : Int32) = jI 0 := by decide
theorem jI_div {a b : Int} (ha : 0 ≤ a ∧ a < 2147483648) (hb : 0 < b ∧ b < 2147483648) : jI a / jI b = jI (a / b) := by
  have h := Int32.ofInt_tdiv (a := a) (b := b) (by show (-2147483648 : Int) ≤ a; omega) (by show a ≤ (2147483647 : Int); omega) (by show (-2147483648 : Int) ≤ b; omega) (by show b ≤ (2147483647 : Int); omega)
  rw [Int.tdiv_eq_ediv_of_nonneg ha.1] at h
  exact h.symm
theorem jI_rem {a b : Int} (ha : 0 ≤ a ∧ a < 2147483648) (hb : 0 < b ∧ b < 2147483648) : jI a - jI a / jI b * jI b = jI (a % b) := by
  rw [jI_div ha hb, jI_mul, jI_sub]
  congr 1
  have := Int.mul_ediv_add_emod a b
  rw [Int.mul_comm] at this
  omega
theorem jI_clamp {a : Int} (h : 0 ≤ a ∧ a < 2147483648) : (jI a).toNatClampNeg = a.toNat := by
  rw [← Int32.toNat_toInt, jI_toInt ⟨by omega, h.2⟩]
theorem jI_in {a : Int} {n : Nat} (h : 0 ≤ a ∧ a < (n : Int)) (hn : n < 2147483648) : vp_in (jI a) n := by
  rw [vp_in_iff, jI_toInt ⟨by omega, by omega⟩]
  exact h
/-- an array's contents by numbers -/
def jA (g : Int → Int) : Nat → Int32 := fun j => jI (g j)
def jU (g : Int → Int) (i z : Int) : Int → Int := fun j => if j = i then z else g j
theorem jU_at (g : Int → Int) (i z : Int) : jU g i z i = z := if_pos rfl
theorem jU_ne {g : Int → Int} {i z j : Int} (h : j ≠ i) : jU g i z j = g j := if_neg h
theorem jA_get {g : Int → Int} {i : Int} (h : 0 ≤ i ∧ i < 2147483648) : jA g (jI i).toNatClampNeg = jI (g i) := by
  rw [jI_clamp h]
  show jI (g (i.toNat : Int)) = jI (g i)
  rw [Int.toNat_of_nonneg h.1]
theorem jA_set {g : Int → Int} {i z : Int} (h : 0 ≤ i ∧ i < 2147483648) : upd (jA g) (jI i).toNatClampNeg (jI z) = jA (jU g i z) := by
  rw [jI_clamp h]
  funext j
  show (if j = i.toNat then jI z else jI (g j)) = jI (if (j : Int) = i then z else g j)
  by_cases hj : j = i.toNat
  · rw [if_pos hj, if_pos (by omega)]
  · rw [if_neg hj, if_neg (by omega)]
theorem jB_nar {z : Int} (h : z = 0 ∨ z = 1) : vp_nar .boolean (jI z) = jI z := by
  rcases h with rfl | rfl <;> decide
theorem jB_nar2 {z : Int} (h : z = 0 ∨ z = 1) : narrow .boolean (.int (jI z)) = .int (jI z) := by
  rcases h with rfl | rfl <;> decide
theorem jB_fit {z : Int} (h : z = 0 ∨ z = 1) : fits .boolean (.int (jI z)) = true := by
  rcases h with rfl | rfl <;> decide
/-! what a method stands on -/
abbrev jE : Type := va_G × ClassId × ClassId × ClassId
abbrev jTys (E : jE) : List (ClassId × FieldType) := [(E.2.1, .int), (E.2.2.1, .boolean), (E.2.2.2, .object "CupEye$State")]
abbrev jM : Type := ByteArray × List Cond × String × Nat × Option FieldType × Room
abbrev jC : Type := Program × Launch × Env × State × MethodId × Array Value × List Frame × Method × Code × (Nat → Prop)
abbrev jcP (C : jC) : Program := C.1
abbrev jcL (C : jC) : Launch := C.2.1
abbrev jcE (C : jC) : Env := C.2.2.1
abbrev jcS (C : jC) : State := C.2.2.2.1
abbrev jcM (C : jC) : MethodId := C.2.2.2.2.1
abbrev jcR (C : jC) : Array Value := C.2.2.2.2.2.1
abbrev jcB (C : jC) : List Frame := C.2.2.2.2.2.2.1
abbrev jcH (C : jC) : Method := C.2.2.2.2.2.2.2.1
abbrev jcC (C : jC) : Code := C.2.2.2.2.2.2.2.2.1
abbrev jcA (C : jC) : Nat → Prop := C.2.2.2.2.2.2.2.2.2
def jNest : List Cond := [.methodLinkNest "CupEye" 9 ⟨"CupEye$State", "<init>", "()V"⟩ "CupEye", .methodLinkNest "CupEye$State" 11 ⟨"CupEye$Book", "<init>", "()V"⟩ "CupEye", .methodLinkNest "CupEye$State" 27 ⟨"CupEye$Boxes", "<init>", "()V"⟩ "CupEye", .methodLinkNest "CupEye$History" 24 ⟨"CupEye$State", "<init>", "()V"⟩ "CupEye", .methodLinkNest "CupEye" 31 ⟨"CupEye$Pad", "<init>", "()V"⟩ "CupEye", .fieldLinkNest "CupEye" 238 "CupEye$History" "size" "I" "CupEye", .fieldLinkNest "CupEye" 119 "CupEye$Pad" "length" "I" "CupEye"]
def jNs (U : State) : Prop := ∀ x ∈ jNest, va_Nw x U
theorem jNs.warm {s U : State} (hW : s.WarmedH U.vm) (h : jNs s) : jNs U := by
  intro x hx
  have h1 := h x hx
  simp only [jNest, List.mem_cons, List.not_mem_nil, or_false] at hx
  rcases hx with rfl | rfl | rfl | rfl | rfl | rfl | rfl
  · exact va_Nw.warmM hW h1
  · exact va_Nw.warmM hW h1
  · exact va_Nw.warmM hW h1
  · exact va_Nw.warmM hW h1
  · exact va_Nw.warmM hW h1
  · exact va_Nw.warmF hW h1
  · exact va_Nw.warmF hW h1
theorem jNs.calling {U : State} (g : JFrame) (mk : MethodId) (a : Array Value) (h : jNs U) : jNs (U.calling g mk a) := by
  intro x hx
  have h1 := h x hx
  simp only [jNest, List.mem_cons, List.not_mem_nil, or_false] at hx
  rcases hx with rfl | rfl | rfl | rfl | rfl | rfl | rfl <;> exact va_Nw.same (u := U) rfl rfl h1
def jF (M : jM) (E : jE) (C : jC) : Prop := (jcP C).tables.exec = Jvm.exec ∧ (jcC C).code = M.1 ∧ (jcC C).maxLocals = M.2.2.2.1 ∧ (jcS C).vm.findClass M.2.2.1 = some (jcM C).cls ∧ (∀ w ∈ M.2.1, w.before (jcR C) (jcS C) = true) ∧ va_K E.1 vwCl (jTys E) (jcS C) ∧ (∀ q, (jcS C).heap.size ≤ q → jcA C q) ∧ (jcH C).sig.returnType = M.2.2.2.2.1 ∧ (jcH C).locks = false ∧ jNs (jcS C)
def jG (M : jM) (E : jE) (C : jC) (Q : State → Prop) (k n pc : Nat) (L : List (Nat × Value)) (S : List Value) (w : va_W) : Prop :=
  jF M E C → ∀ (H : Heap) (locs : List Loc) (ls : Array Slot), va_P E.1 vwCl w H → va_D (jcA C) w → va_S (jcA C) (jcS C).heap H locs → lv_has ls M.2.2.2.1 L →
    W (jcP C) (jcL C) (jcE C) M.2.2.2.2.2 (jcS C) (jcM C) (jcR C) (jcB C) (jcH C) (jcC C) H locs k n Q (F0 (jcM C) pc ls S)
section
variable {M : jM} {E : jE} {C : jC} {Q : State → Prop} {k n pc : Nat} {L : List (Nat × Value)} {S : List Value} {w : va_W}
theorem j_perm {L' : List (Nat × Value)} (ks : List Nat) (hl : lv_pick L ks = L') (kk : jG M E C Q k n pc L' S w) : jG M E C Q k n pc L S w :=
  fun hF H locs ls hP hD hS hl' => kk hF H locs ls hP hD hS (lv_sub hl' ks hl)
theorem j_eqw {w' : va_W} (h : w = w') (kk : jG M E C Q k n pc L S w') : jG M E C Q k n pc L S w := h ▸ kk
theorem j_eqS {S' : List Value} (h : S = S') (kk : jG M E C Q k n pc L S' w) : jG M E C Q k n pc L S w := h ▸ kk
theorem j_eqL {L' : List (Nat × Value)} (h : L = L') (kk : jG M E C Q k n pc L' S w) : jG M E C Q k n pc L S w := h ▸ kk
theorem j_iconst {z : Int} (pc' : Nat) (hd : decode M.1 pc = .ok (.iconst z, 1)) (hn : pc + 1 = pc') (kk : jG M E C Q k n pc' L (.int (jI z) :: S) w) : jG M E C Q k n pc L S w := by
  subst hn
  exact fun hF H locs ls hP hD hS hl => lv_iconst hF.1 hF.2.1 hd rfl (kk hF H locs ls hP hD hS hl)
theorem j_bipush {z : Int} (pc' : Nat) (hd : decode M.1 pc = .ok (.bipush z, 2)) (hn : pc + 2 = pc') (hz : (Int8.ofInt z).toInt32 = jI z) (kk : jG M E C Q k n pc' L (.int (jI z) :: S) w) : jG M E C Q k n pc L S w := by
  subst hn
  exact fun hF H locs ls hP hD hS hl => lv_bipush hF.1 hF.2.1 hd hz (kk hF H locs ls hP hD hS hl)
theorem j_sipush {z : Int} (pc' : Nat) (hd : decode M.1 pc = .ok (.sipush z, 3)) (hn : pc + 3 = pc') (hz : (Int16.ofInt z).toInt32 = jI z) (kk : jG M E C Q k n pc' L (.int (jI z) :: S) w) : jG M E C Q k n pc L S w := by
  subst hn
  exact fun hF H locs ls hP hD hS hl => lv_sipush hF.1 hF.2.1 hd hz (kk hF H locs ls hP hD hS hl)
theorem j_iload_n {i : Fin 4} {x : Int} (q pc' : Nat) (hd : decode M.1 pc = .ok (.iload_n i, 1)) (hn : pc + 1 = pc') (hl : L[q]? = some ((i : Nat), .int (jI x))) (kk : jG M E C Q k n pc' L (.int (jI x) :: S) w) : jG M E C Q k n pc L S w := by
  subst hn
  exact fun hF H locs ls hP hD hS hl' => lv_iload_n hF.1 hF.2.1 hd rfl (lv_at hl' q hl) (kk hF H locs ls hP hD hS hl')
theorem j_iload {i : Nat} {x : Int} (q pc' : Nat) (hd : decode M.1 pc = .ok (.iload i, 2)) (hn : pc + 2 = pc') (hl : L[q]? = some (i, .int (jI x))) (kk : jG M E C Q k n pc' L (.int (jI x) :: S) w) : jG M E C Q k n pc L S w := by
  subst hn
  exact fun hF H locs ls hP hD hS hl' => lv_iload hF.1 hF.2.1 hd (lv_at hl' q hl) (kk hF H locs ls hP hD hS hl')
theorem j_aload_n {i : Fin 4} {x : Nat} (q pc' : Nat) (hd : decode M.1 pc = .ok (.aload_n i, 1)) (hn : pc + 1 = pc') (hl : L[q]? = some ((i : Nat), .ref x)) (kk : jG M E C Q k n pc' L (.ref x :: S) w) : jG M E C Q k n pc L S w := by
  subst hn
  exact fun hF H locs ls hP hD hS hl' => lv_aload_n hF.1 hF.2.1 hd rfl (lv_at hl' q hl) (kk hF H locs ls hP hD hS hl')
theorem j_istore_n {i : Fin 4} {x : Int} (pc' : Nat) (L' : List (Nat × Value)) (hd : decode M.1 pc = .ok (.istore_n i, 1)) (hn : pc + 1 = pc') (hi : (i : Nat) < M.2.2.2.1) (hl : ((i : Nat), Value.int (jI x)) :: L.filter (fun q => !(q.1 == (i : Nat)) && !(q.1 + 1 == (i : Nat) && q.2.category == 2)) = L') (kk : jG M E C Q k n pc' L' S w) : jG M E C Q k n pc L (.int (jI x) :: S) w := by
  subst hn
  exact fun hF H locs ls hP hD hS hl' => lv_istore_n hF.1 hF.2.1 hd rfl hl' hi hl (fun ls' h' => kk hF H locs ls' hP hD hS h')
theorem j_istore {i : Nat} {x : Int} (pc' : Nat) (L' : List (Nat × Value)) (hd : decode M.1 pc = .ok (.istore i, 2)) (hn : pc + 2 = pc') (hi : i < M.2.2.2.1) (hl : (i, Value.int (jI x)) :: L.filter (fun q => !(q.1 == i) && !(q.1 + 1 == i && q.2.category == 2)) = L') (kk : jG M E C Q k n pc' L' S w) : jG M E C Q k n pc L (.int (jI x) :: S) w := by
  subst hn
  exact fun hF H locs ls hP hD hS hl' => lv_istore hF.1 hF.2.1 hd hl' hi hl (fun ls' h' => kk hF H locs ls' hP hD hS h')
theorem j_astore_n {i : Fin 4} {x : Nat} (pc' : Nat) (L' : List (Nat × Value)) (hd : decode M.1 pc = .ok (.astore_n i, 1)) (hn : pc + 1 = pc') (hi : (i : Nat) < M.2.2.2.1) (hl : ((i : Nat), Value.ref x) :: L.filter (fun q => !(q.1 == (i : Nat)) && !(q.1 + 1 == (i : Nat) && q.2.category == 2)) = L') (kk : jG M E C Q k n pc' L' S w) : jG M E C Q k n pc L (.ref x :: S) w := by
  subst hn
  exact fun hF H locs ls hP hD hS hl' => lv_astore_n hF.1 hF.2.1 hd rfl hl' hi hl (fun ls' h' => kk hF H locs ls' hP hD hS h')
theorem j_iinc {i : Nat} {d x : Int} (q pc' : Nat) (L' : List (Nat × Value)) (hd : decode M.1 pc = .ok (.iinc i d, 3)) (hn : pc + 3 = pc') (hq : L[q]? = some (i, .int (jI x))) (hi : i < M.2.2.2.1) (hl : (i, Value.int (jI (x + d))) :: L.filter (fun q => !(q.1 == i) && !(q.1 + 1 == i && q.2.category == 2)) = L') (kk : jG M E C Q k n pc' L' S w) : jG M E C Q k n pc L S w := by
  subst hn
  exact fun hF H locs ls hP hD hS hl' => lv_iinc hF.1 hF.2.1 hd hl' hq (jI_add x d) hi hl (fun ls' h' => kk hF H locs ls' hP hD hS h')
theorem j_iadd {a b : Int} (pc' : Nat) (hd : decode M.1 pc = .ok (.iadd, 1)) (hn : pc + 1 = pc') (kk : jG M E C Q k n pc' L (.int (jI (a + b)) :: S) w) : jG M E C Q k n pc L (.int (jI b) :: .int (jI a) :: S) w := by
  subst hn
  exact fun hF H locs ls hP hD hS hl => lv_iadd hF.1 hF.2.1 hd (by rw [jI_add]; exact kk hF H locs ls hP hD hS hl)
theorem j_isub {a b : Int} (pc' : Nat) (hd : decode M.1 pc = .ok (.isub, 1)) (hn : pc + 1 = pc') (kk : jG M E C Q k n pc' L (.int (jI (a - b)) :: S) w) : jG M E C Q k n pc L (.int (jI b) :: .int (jI a) :: S) w := by
  subst hn
  exact fun hF H locs ls hP hD hS hl => lv_isub hF.1 hF.2.1 hd (by rw [jI_sub]; exact kk hF H locs ls hP hD hS hl)
theorem j_imul {a b : Int} (pc' : Nat) (hd : decode M.1 pc = .ok (.imul, 1)) (hn : pc + 1 = pc') (kk : jG M E C Q k n pc' L (.int (jI (a * b)) :: S) w) : jG M E C Q k n pc L (.int (jI b) :: .int (jI a) :: S) w := by
  subst hn
  exact fun hF H locs ls hP hD hS hl => lv_imul hF.1 hF.2.1 hd (by rw [jI_mul]; exact kk hF H locs ls hP hD hS hl)
theorem j_idiv {a b : Int} (pc' : Nat) (hd : decode M.1 pc = .ok (.idiv, 1)) (hn : pc + 1 = pc') (ha : 0 ≤ a ∧ a < 2147483648) (hb : 0 < b ∧ b < 2147483648) (kk : jG M E C Q k n pc' L (.int (jI (a / b)) :: S) w) : jG M E C Q k n pc L (.int (jI b) :: .int (jI a) :: S) w := by
  subst hn
  exact fun hF H locs ls hP hD hS hl => lv_idiv hF.1 hF.2.1 hd (by rw [jI_0, jI_eq (by omega) (by omega)]; omega) (by rw [jI_div ha hb]; exact kk hF H locs ls hP hD hS hl)
theorem j_irem {a b : Int} (pc' : Nat) (hd : decode M.1 pc = .ok (.irem, 1)) (hn : pc + 1 = pc') (ha : 0 ≤ a ∧ a < 2147483648) (hb : 0 < b ∧ b < 2147483648) (kk : jG M E C Q k n pc' L (.int (jI (a % b)) :: S) w) : jG M E C Q k n pc L (.int (jI b) :: .int (jI a) :: S) w := by
  subst hn
  exact fun hF H locs ls hP hD hS hl => lv_irem hF.1 hF.2.1 hd (by rw [jI_0, jI_eq (by omega) (by omega)]; omega) (by rw [jI_rem ha hb]; exact kk hF H locs ls hP hD hS hl)
theorem j_dup {v : Value} (pc' : Nat) (hd : decode M.1 pc = .ok (.dup, 1)) (hn : pc + 1 = pc') (hv : v.category = 1) (kk : jG M E C Q k n pc' L (v :: v :: S) w) : jG M E C Q k n pc L (v :: S) w := by
  subst hn
  exact fun hF H locs ls hP hD hS hl => lv_dup hF.1 hF.2.1 hd hv (kk hF H locs ls hP hD hS hl)
theorem j_dup2 {u v : Value} (pc' : Nat) (hd : decode M.1 pc = .ok (.dup2, 1)) (hn : pc + 1 = pc') (hu : u.category = 1) (hv : v.category = 1) (kk : jG M E C Q k n pc' L (u :: v :: u :: v :: S) w) : jG M E C Q k n pc L (u :: v :: S) w := by
  subst hn
  exact fun hF H locs ls hP hD hS hl => lv_dup2_11 hF.1 hF.2.1 hd hu hv (kk hF H locs ls hP hD hS hl)
theorem j_goto {off : Int} (tgt : Nat) (hd : decode M.1 pc = .ok (.goto off, 3)) (ht : (pc : Int) + off = (tgt : Int)) (kk : jG M E C Q k n tgt L S w) : jG M E C Q k n pc L S w :=
  fun hF H locs ls hP hD hS hl => lv_goto hF.1 hF.2.1 hd ht (kk hF H locs ls hP hD hS hl)
theorem j_icmp_lt {a b off : Int} (tgt pc' : Nat) (hd : decode M.1 pc = .ok (.if_icmp .lt off, 3)) (hn : pc + 3 = pc') (ht : (pc : Int) + off = (tgt : Int)) (ha : -2147483648 ≤ a ∧ a < 2147483648) (hb : -2147483648 ≤ b ∧ b < 2147483648) (kt : a < b → jG M E C Q k n tgt L S w) (kf : ¬ a < b → jG M E C Q k n pc' L S w) : jG M E C Q k n pc L (.int (jI b) :: .int (jI a) :: S) w := by
  subst hn
  exact fun hF H locs ls hP hD hS hl => lv_icmp_lt hF.1 hF.2.1 hd ht (fun h => kt ((jI_lt ha hb).mp h) hF H locs ls hP hD hS hl) (fun h => kf (fun q => h ((jI_lt ha hb).mpr q)) hF H locs ls hP hD hS hl)
theorem j_icmp_ge {a b off : Int} (tgt pc' : Nat) (hd : decode M.1 pc = .ok (.if_icmp .ge off, 3)) (hn : pc + 3 = pc') (ht : (pc : Int) + off = (tgt : Int)) (ha : -2147483648 ≤ a ∧ a < 2147483648) (hb : -2147483648 ≤ b ∧ b < 2147483648) (kt : b ≤ a → jG M E C Q k n tgt L S w) (kf : ¬ b ≤ a → jG M E C Q k n pc' L S w) : jG M E C Q k n pc L (.int (jI b) :: .int (jI a) :: S) w := by
  subst hn
  exact fun hF H locs ls hP hD hS hl => lv_icmp_ge hF.1 hF.2.1 hd ht (fun h => kt ((jI_le hb ha).mp h) hF H locs ls hP hD hS hl) (fun h => kf (fun q => h ((jI_le hb ha).mpr q)) hF H locs ls hP hD hS hl)
theorem j_icmp_gt {a b off : Int} (tgt pc' : Nat) (hd : decode M.1 pc = .ok (.if_icmp .gt off, 3)) (hn : pc + 3 = pc') (ht : (pc : Int) + off = (tgt : Int)) (ha : -2147483648 ≤ a ∧ a < 2147483648) (hb : -2147483648 ≤ b ∧ b < 2147483648) (kt : b < a → jG M E C Q k n tgt L S w) (kf : ¬ b < a → jG M E C Q k n pc' L S w) : jG M E C Q k n pc L (.int (jI b) :: .int (jI a) :: S) w := by
  subst hn
  exact fun hF H locs ls hP hD hS hl => lv_icmp_gt hF.1 hF.2.1 hd ht (fun h => kt ((jI_lt hb ha).mp h) hF H locs ls hP hD hS hl) (fun h => kf (fun q => h ((jI_lt hb ha).mpr q)) hF H locs ls hP hD hS hl)
theorem j_icmp_le {a b off : Int} (tgt pc' : Nat) (hd : decode M.1 pc = .ok (.if_icmp .le off, 3)) (hn : pc + 3 = pc') (ht : (pc : Int) + off = (tgt : Int)) (ha : -2147483648 ≤ a ∧ a < 2147483648) (hb : -2147483648 ≤ b ∧ b < 2147483648) (kt : a ≤ b → jG M E C Q k n tgt L S w) (kf : ¬ a ≤ b → jG M E C Q k n pc' L S w) : jG M E C Q k n pc L (.int (jI b) :: .int (jI a) :: S) w := by
  subst hn
  exact fun hF H locs ls hP hD hS hl => lv_icmp_le hF.1 hF.2.1 hd ht (fun h => kt ((jI_le ha hb).mp h) hF H locs ls hP hD hS hl) (fun h => kf (fun q => h ((jI_le ha hb).mpr q)) hF H locs ls hP hD hS hl)
theorem j_icmp_eq {a b off : Int} (tgt pc' : Nat) (hd : decode M.1 pc = .ok (.if_icmp .eq off, 3)) (hn : pc + 3 = pc') (ht : (pc : Int) + off = (tgt : Int)) (ha : -2147483648 ≤ a ∧ a < 2147483648) (hb : -2147483648 ≤ b ∧ b < 2147483648) (kt : a = b → jG M E C Q k n tgt L S w) (kf : ¬ a = b → jG M E C Q k n pc' L S w) : jG M E C Q k n pc L (.int (jI b) :: .int (jI a) :: S) w := by
  subst hn
  exact fun hF H locs ls hP hD hS hl => lv_icmp_eq hF.1 hF.2.1 hd ht (fun h => kt ((jI_eq ha hb).mp h) hF H locs ls hP hD hS hl) (fun h => kf (fun q => h ((jI_eq ha hb).mpr q)) hF H locs ls hP hD hS hl)
theorem j_icmp_ne {a b off : Int} (tgt pc' : Nat) (hd : decode M.1 pc = .ok (.if_icmp .ne off, 3)) (hn : pc + 3 = pc') (ht : (pc : Int) + off = (tgt : Int)) (ha : -2147483648 ≤ a ∧ a < 2147483648) (hb : -2147483648 ≤ b ∧ b < 2147483648) (kt : ¬ a = b → jG M E C Q k n tgt L S w) (kf : a = b → jG M E C Q k n pc' L S w) : jG M E C Q k n pc L (.int (jI b) :: .int (jI a) :: S) w := by
  subst hn
  exact fun hF H locs ls hP hD hS hl => lv_icmp_ne hF.1 hF.2.1 hd ht (fun h => kt (fun q => h ((jI_eq ha hb).mpr q)) hF H locs ls hP hD hS hl) (fun h => kf ((jI_eq ha hb).mp h) hF H locs ls hP hD hS hl)
theorem j_if_lt {a off : Int} (tgt pc' : Nat) (hd : decode M.1 pc = .ok (.ifCond .lt off, 3)) (hn : pc + 3 = pc') (ht : (pc : Int) + off = (tgt : Int)) (ha : -2147483648 ≤ a ∧ a < 2147483648) (kt : a < 0 → jG M E C Q k n tgt L S w) (kf : ¬ a < 0 → jG M E C Q k n pc' L S w) : jG M E C Q k n pc L (.int (jI a) :: S) w := by
  subst hn
  have h0 : -2147483648 ≤ (0 : Int) ∧ (0 : Int) < 2147483648 := by omega
  exact fun hF H locs ls hP hD hS hl => lv_if_lt hF.1 hF.2.1 hd ht (fun h => kt ((jI_lt ha h0).mp (jI_0 ▸ h)) hF H locs ls hP hD hS hl) (fun h => kf (fun q => h (jI_0 ▸ ((jI_lt ha h0).mpr q))) hF H locs ls hP hD hS hl)
theorem j_if_ge {a off : Int} (tgt pc' : Nat) (hd : decode M.1 pc = .ok (.ifCond .ge off, 3)) (hn : pc + 3 = pc') (ht : (pc : Int) + off = (tgt : Int)) (ha : -2147483648 ≤ a ∧ a < 2147483648) (kt : 0 ≤ a → jG M E C Q k n tgt L S w) (kf : ¬ 0 ≤ a → jG M E C Q k n pc' L S w) : jG M E C Q k n pc L (.int (jI a) :: S) w := by
  subst hn
  have h0 : -2147483648 ≤ (0 : Int) ∧ (0 : Int) < 2147483648 := by omega
  exact fun hF H locs ls hP hD hS hl => lv_if_ge hF.1 hF.2.1 hd ht (fun h => kt ((jI_le h0 ha).mp (jI_0 ▸ h)) hF H locs ls hP hD hS hl) (fun h => kf (fun q => h (jI_0 ▸ ((jI_le h0 ha).mpr q))) hF H locs ls hP hD hS hl)
theorem j_if_gt {a off : Int} (tgt pc' : Nat) (hd : decode M.1 pc = .ok (.ifCond .gt off, 3)) (hn : pc + 3 = pc') (ht : (pc : Int) + off = (tgt : Int)) (ha : -2147483648 ≤ a ∧ a < 2147483648) (kt : 0 < a → jG M E C Q k n tgt L S w) (kf : ¬ 0 < a → jG M E C Q k n pc' L S w) : jG M E C Q k n pc L (.int (jI a) :: S) w := by
  subst hn
  have h0 : -2147483648 ≤ (0 : Int) ∧ (0 : Int) < 2147483648 := by omega
  exact fun hF H locs ls hP hD hS hl => lv_if_gt hF.1 hF.2.1 hd ht (fun h => kt ((jI_lt h0 ha).mp (jI_0 ▸ h)) hF H locs ls hP hD hS hl) (fun h => kf (fun q => h (jI_0 ▸ ((jI_lt h0 ha).mpr q))) hF H locs ls hP hD hS hl)
theorem j_if_le {a off : Int} (tgt pc' : Nat) (hd : decode M.1 pc = .ok (.ifCond .le off, 3)) (hn : pc + 3 = pc') (ht : (pc : Int) + off = (tgt : Int)) (ha : -2147483648 ≤ a ∧ a < 2147483648) (kt : a ≤ 0 → jG M E C Q k n tgt L S w) (kf : ¬ a ≤ 0 → jG M E C Q k n pc' L S w) : jG M E C Q k n pc L (.int (jI a) :: S) w := by
  subst hn
  have h0 : -2147483648 ≤ (0 : Int) ∧ (0 : Int) < 2147483648 := by omega
  exact fun hF H locs ls hP hD hS hl => lv_if_le hF.1 hF.2.1 hd ht (fun h => kt ((jI_le ha h0).mp (jI_0 ▸ h)) hF H locs ls hP hD hS hl) (fun h => kf (fun q => h (jI_0 ▸ ((jI_le ha h0).mpr q))) hF H locs ls hP hD hS hl)
theorem j_if_eq {a off : Int} (tgt pc' : Nat) (hd : decode M.1 pc = .ok (.ifCond .eq off, 3)) (hn : pc + 3 = pc') (ht : (pc : Int) + off = (tgt : Int)) (ha : -2147483648 ≤ a ∧ a < 2147483648) (kt : a = 0 → jG M E C Q k n tgt L S w) (kf : ¬ a = 0 → jG M E C Q k n pc' L S w) : jG M E C Q k n pc L (.int (jI a) :: S) w := by
  subst hn
  have h0 : -2147483648 ≤ (0 : Int) ∧ (0 : Int) < 2147483648 := by omega
  exact fun hF H locs ls hP hD hS hl => lv_if_eq hF.1 hF.2.1 hd ht (fun h => kt ((jI_eq ha h0).mp (jI_0 ▸ h)) hF H locs ls hP hD hS hl) (fun h => kf (fun q => h (jI_0 ▸ ((jI_eq ha h0).mpr q))) hF H locs ls hP hD hS hl)
theorem j_if_ne {a off : Int} (tgt pc' : Nat) (hd : decode M.1 pc = .ok (.ifCond .ne off, 3)) (hn : pc + 3 = pc') (ht : (pc : Int) + off = (tgt : Int)) (ha : -2147483648 ≤ a ∧ a < 2147483648) (kt : ¬ a = 0 → jG M E C Q k n tgt L S w) (kf : a = 0 → jG M E C Q k n pc' L S w) : jG M E C Q k n pc L (.int (jI a) :: S) w := by
  subst hn
  have h0 : -2147483648 ≤ (0 : Int) ∧ (0 : Int) < 2147483648 := by omega
  exact fun hF H locs ls hP hD hS hl => lv_if_ne hF.1 hF.2.1 hd ht (fun h => kt (fun q => h (jI_0 ▸ ((jI_eq ha h0).mpr q))) hF H locs ls hP hD hS hl) (fun h => kf ((jI_eq ha h0).mp (jI_0 ▸ h)) hF H locs ls hP hD hS hl)
/-- a switch by its numbers: inside, at a known number -/
theorem j_tabIn {dflt lo hi : Int} {offs : Array Int} {len : Nat} {x off : Int} (i : Int) (tgt : Nat) (hx : x = i) (hd : decode M.1 pc = .ok (.tableswitch dflt lo hi offs, len)) (hi2 : (lo ≤ i ∧ i ≤ hi) ∧ -2147483648 ≤ i ∧ i < 2147483648) (ho : offs[(i - lo).toNat]? = some off) (ht : (pc : Int) + off = (tgt : Int)) (kk : jG M E C Q k n tgt L S w) : jG M E C Q k n pc L (.int (jI x) :: S) w := by
  subst hx
  have e := jI_toInt hi2.2
  exact fun hF H locs ls hP hD hS hl => lv_tableIn hF.1 hF.2.1 hd (by rw [e]; omega) (by rw [e]; omega) (by rw [e]; exact ho) ht (kk hF H locs ls hP hD hS hl)
theorem j_tabOut {dflt lo hi : Int} {offs : Array Int} {len : Nat} {x : Int} (tgt : Nat) (hd : decode M.1 pc = .ok (.tableswitch dflt lo hi offs, len)) (hb : -2147483648 ≤ x ∧ x < 2147483648) (hi2 : x < lo ∨ hi < x) (ht : (pc : Int) + dflt = (tgt : Int)) (kk : jG M E C Q k n tgt L S w) : jG M E C Q k n pc L (.int (jI x) :: S) w := by
  have e := jI_toInt hb
  exact fun hF H locs ls hP hD hS hl => lv_tableOut hF.1 hF.2.1 hd (by rw [e]; exact hi2) ht (kk hF H locs ls hP hD hS hl)
theorem j_get {T : u_T} {N ci index a : Nat} {Cn : String} {fs : List Value} {v : Value} (q0 kf il pc' : Nat) (hin : ∀ x ∈ u_ws Cn T N, x ∈ M.2.1) (hd : decode M.1 pc = .ok (.getfield index, 3)) (hn : pc + 3 = pc') (he : w[q0]? = some (a, .inr (ci, fs))) (hc : vwCl[ci]? = some (Cn, T, N)) (hk : kf < N) (hil : M.2.1[il]? = some (.fieldLink M.2.2.1 index (T kf).1 (T kf).2.1 (T kf).2.2.1)) (hv : fs[kf]? = some v) (kk : jG M E C Q k n pc' L (v :: S) w) : jG M E C Q k n pc L (.ref a :: S) w := by
  subst hn
  exact fun hF H locs ls hP hD hS hl => va_get hF.1 hF.2.1 hF.2.2.2.2.1 hin hF.2.2.2.1 hF.2.2.2.2.2.1 hP q0 he hc kf hk (hF.2.2.2.2.1 _ (List.mem_of_getElem? hil)) (fun _ h => h) hv hd (kk hF H locs ls hP hD hS hl)
theorem j_getN {T : u_T} {N ci index a : Nat} {Cn host : String} {fs : List Value} {v : Value} (q0 kf il pc' : Nat) (hin : ∀ x ∈ u_ws Cn T N, x ∈ M.2.1) (hd : decode M.1 pc = .ok (.getfield index, 3)) (hn : pc + 3 = pc') (he : w[q0]? = some (a, .inr (ci, fs))) (hc : vwCl[ci]? = some (Cn, T, N)) (hk : kf < N) (hil : jNest[il]? = some (.fieldLinkNest M.2.2.1 index (T kf).1 (T kf).2.1 (T kf).2.2.1 host)) (hv : fs[kf]? = some v) (kk : jG M E C Q k n pc' L (v :: S) w) : jG M E C Q k n pc L (.ref a :: S) w := by
  subst hn
  exact fun hF H locs ls hP hD hS hl => va_getN hF.1 hF.2.1 hF.2.2.2.2.1 hin hF.2.2.2.1 hF.2.2.2.2.2.1 hP q0 he hc kf hk (va_Nw.use rfl (hF.2.2.2.2.2.2.2.2.2 _ (List.mem_of_getElem? hil))) (fun _ h => h) hv hd (kk hF H locs ls hP hD hS hl)
theorem j_put {T : u_T} {N ci index a : Nat} {Cn : String} {fs : List Value} {v : Value} {ty : FieldType} (q0 kf il pc' : Nat) (w' : va_W) (ty0 : Nat → FieldType) (hty : ∀ q, q < N → parseFieldDescriptor (T q).2.2.1 = some (ty0 q)) (hnm : ∀ a, a < N → ∀ b, b < N → a ≠ b → (T a).2.1 ≠ (T b).2.1) (hin : ∀ x ∈ u_ws Cn T N, x ∈ M.2.1) (hd : decode M.1 pc = .ok (.putfield index, 3)) (hn : pc + 3 = pc') (he : w[q0]? = some (a, .inr (ci, fs))) (hc : vwCl[ci]? = some (Cn, T, N)) (hk : kf < N) (hil : M.2.1[il]? = some (.fieldLink M.2.2.1 index (T kf).1 (T kf).2.1 (T kf).2.2.1)) (hfin : (T kf).2.2.2 = false) (ht : ty0 kf = ty) (hnr : narrow ty v = v) (hft : fits ty v = true) (hl0 : kf < fs.length) (hw : w.set q0 (a, .inr (ci, fs.set kf v)) = w') (kk : jG M E C Q k n pc' L S w') : jG M E C Q k n pc L (v :: .ref a :: S) w := by
  subst hn; subst hw; subst ht
  exact fun hF H locs ls hP hD hS hl => va_put hF.1 hF.2.1 hF.2.2.2.2.1 hin ty0 hty hnm hF.2.2.2.1 hF.2.2.2.2.2.1 hP hD hS q0 he hc kf hk (hF.2.2.2.2.1 _ (List.mem_of_getElem? hil)) (fun _ h => h) hfin (hty kf hk) hnr hft hl0 hd (fun H1 locs1 hP1 hD1 hS1 => kk hF H1 locs1 ls hP1 hD1 hS1 hl)
theorem j_putN {T : u_T} {N ci index a : Nat} {Cn host : String} {fs : List Value} {v : Value} {ty : FieldType} (q0 kf il pc' : Nat) (w' : va_W) (ty0 : Nat → FieldType) (hty : ∀ q, q < N → parseFieldDescriptor (T q).2.2.1 = some (ty0 q)) (hnm : ∀ a, a < N → ∀ b, b < N → a ≠ b → (T a).2.1 ≠ (T b).2.1) (hin : ∀ x ∈ u_ws Cn T N, x ∈ M.2.1) (hd : decode M.1 pc = .ok (.putfield index, 3)) (hn : pc + 3 = pc') (he : w[q0]? = some (a, .inr (ci, fs))) (hc : vwCl[ci]? = some (Cn, T, N)) (hk : kf < N) (hil : jNest[il]? = some (.fieldLinkNest M.2.2.1 index (T kf).1 (T kf).2.1 (T kf).2.2.1 host)) (hfin : (T kf).2.2.2 = false) (ht : ty0 kf = ty) (hnr : narrow ty v = v) (hft : fits ty v = true) (hl0 : kf < fs.length) (hw : w.set q0 (a, .inr (ci, fs.set kf v)) = w') (kk : jG M E C Q k n pc' L S w') : jG M E C Q k n pc L (v :: .ref a :: S) w := by
  subst hn; subst hw; subst ht
  exact fun hF H locs ls hP hD hS hl => va_putN hF.1 hF.2.1 hF.2.2.2.2.1 hin ty0 hty hnm hF.2.2.2.1 hF.2.2.2.2.2.1 hP hD hS q0 he hc kf hk (va_Nw.use rfl (hF.2.2.2.2.2.2.2.2.2 _ (List.mem_of_getElem? hil))) (fun _ h => h) hfin (hty kf hk) hnr hft hl0 hd (fun H1 locs1 hP1 hD1 hS1 => kk hF H1 locs1 ls hP1 hD1 hS1 hl)
theorem j_iald {a nA : Nat} {g : Int → Int} {i : Int} (q0 pc' : Nat) (hd : decode M.1 pc = .ok (.iaload, 1)) (hn : pc + 1 = pc') (ha : w[q0]? = some (a, .inl (E.2.1, nA, .inl (jA g)))) (hA : nA < 2147483648) (hi : 0 ≤ i ∧ i < (nA : Int)) (kk : jG M E C Q k n pc' L (.int (jI (g i)) :: S) w) : jG M E C Q k n pc L (.int (jI i) :: .ref a :: S) w := by
  subst hn
  intro hF H locs ls hP hD hS hl
  refine va_iald hF.1 hF.2.1 hF.2.2.2.2.2.1 hP q0 0 ha rfl (jI_in hi hA) hd ?_
  rw [jA_get ⟨hi.1, by omega⟩]
  exact kk hF H locs ls hP hD hS hl
theorem j_zald {a nA : Nat} {g : Int → Int} {i : Int} (q0 pc' : Nat) (hd : decode M.1 pc = .ok (.baload, 1)) (hn : pc + 1 = pc') (ha : w[q0]? = some (a, .inl (E.2.2.1, nA, .inl (jA g)))) (hA : nA < 2147483648) (hi : 0 ≤ i ∧ i < (nA : Int)) (kk : jG M E C Q k n pc' L (.int (jI (g i)) :: S) w) : jG M E C Q k n pc L (.int (jI i) :: .ref a :: S) w := by
  subst hn
  intro hF H locs ls hP hD hS hl
  refine va_zald hF.1 hF.2.1 hF.2.2.2.2.2.1 hP q0 1 ha rfl (jI_in hi hA) hd ?_
  rw [jA_get ⟨hi.1, by omega⟩]
  exact kk hF H locs ls hP hD hS hl
theorem j_iast {a nA : Nat} {g : Int → Int} {i z : Int} (q0 pc' : Nat) (w' : va_W) (hd : decode M.1 pc = .ok (.iastore, 1)) (hn : pc + 1 = pc') (ha : w[q0]? = some (a, .inl (E.2.1, nA, .inl (jA g)))) (hA : nA < 2147483648) (hi : 0 ≤ i ∧ i < (nA : Int)) (hw : w.set q0 (a, .inl (E.2.1, nA, .inl (jA (jU g i z)))) = w') (kk : jG M E C Q k n pc' L S w') : jG M E C Q k n pc L (.int (jI z) :: .int (jI i) :: .ref a :: S) w := by
  subst hn; subst hw
  intro hF H locs ls hP hD hS hl
  refine va_iast hF.1 hF.2.1 hF.2.2.2.2.2.1 hP hD hS q0 0 ha rfl (jI_in hi hA) hd (fun H1 locs1 hP1 hD1 hS1 => ?_)
  rw [jA_set ⟨hi.1, by omega⟩] at hP1 hD1
  exact kk hF H1 locs1 ls hP1 hD1 hS1 hl
theorem j_zast {a nA : Nat} {g : Int → Int} {i z : Int} (q0 pc' : Nat) (w' : va_W) (hd : decode M.1 pc = .ok (.bastore, 1)) (hn : pc + 1 = pc') (ha : w[q0]? = some (a, .inl (E.2.2.1, nA, .inl (jA g)))) (hA : nA < 2147483648) (hi : 0 ≤ i ∧ i < (nA : Int)) (hz : z = 0 ∨ z = 1) (hw : w.set q0 (a, .inl (E.2.2.1, nA, .inl (jA (jU g i z)))) = w') (kk : jG M E C Q k n pc' L S w') : jG M E C Q k n pc L (.int (jI z) :: .int (jI i) :: .ref a :: S) w := by
  subst hn; subst hw
  intro hF H locs ls hP hD hS hl
  refine va_zast hF.1 hF.2.1 hF.2.2.2.2.2.1 hP hD hS q0 1 ha rfl (jI_in hi hA) hd (fun H1 locs1 hP1 hD1 hS1 => ?_)
  rw [jB_nar hz, jA_set ⟨hi.1, by omega⟩] at hP1 hD1
  exact kk hF H1 locs1 ls hP1 hD1 hS1 hl
end
/-! contracts -/
def jPc (E : jE) (sz : Nat) (as : List Value) (w : va_W) : Array Value → State → Prop := va_Pc as (fun U => U.heap.size = sz ∧ va_P E.1 vwCl w U.heap ∧ va_K E.1 vwCl (jTys E) U ∧ va_D (fun _ => True) w ∧ jNs U)
def jAt (E : jE) (A : Nat → Prop) (w : va_W) (t : State) : Prop := va_P E.1 vwCl w t.heap ∧ va_D A w
/-- an int answer (a boolean is one): from the world w, with these arguments, the answer is z and the world is w' -/
def jMI (E : jE) (y : MethodName) (ws : List Cond) (rm : Room) (as : List Value) (w : va_W) (z : Int) (w' : va_W) : Prop := ∀ (l : Launch) (sz : Nat), Met l y ws rm (jPc E sz as w) (va_Qi (fun (r : Int32) (_ : Unit) => r = jI z) (fun _ t => jAt E (va_A w sz) w' t) (va_A w sz)) 0 0 (va_A w sz)
def jMV (E : jE) (y : MethodName) (ws : List Cond) (rm : Room) (as : List Value) (w w' : va_W) : Prop := ∀ (l : Launch) (sz : Nat), Met l y ws rm (jPc E sz as w) (va_Qv (fun (_ : Unit) => True) (fun _ t => jAt E (va_A w sz) w' t) (va_A w sz)) 0 0 (va_A w sz)
def jQi (E : jE) (C : jC) (z : Int) (w' : va_W) : State → Prop := MQ (jcB C) (va_Qi (fun (r : Int32) (_ : Unit) => r = jI z) (fun _ t => jAt E (jcA C) w' t) (jcA C)) (jcR C) (jcS C) 0 0 (jcA C)
def jQv (E : jE) (C : jC) (w' : va_W) : State → Prop := MQ (jcB C) (va_Qv (fun (_ : Unit) => True) (fun _ t => jAt E (jcA C) w' t) (jcA C)) (jcR C) (jcS C) 0 0 (jcA C)
theorem jPc_blind (E : jE) (sz : Nat) (as : List Value) (w : va_W) : FrameBlind (jPc E sz as w) := fun a U g mk q => by
  obtain ⟨q0, q1, qP, qK, qD, qN⟩ := q
  exact ⟨q0, q1, qP, va_K.moved (u := U) (U := U.calling g mk a) (Vm.Alike.refl U.vm) qK, qD, jNs.calling g mk a qN⟩
theorem jMI_of {E : jE} {cc : ByteArray} {y : MethodName} {ws ws' : List Cond} {rm : Room} {maxL : Nat} {ret : Option FieldType} {as : List Value} {w w' : va_W} {z : Int} (L0 : List (Nat × Value)) (hy : plainName y.cls = true) (hw : ws = Cond.code y cc maxL ret :: ws') (hL : lv_args 0 as = L0) (hn : (lg_sl as).length ≤ maxL) (h : ∀ C : jC, jG (cc, ws, y.cls, maxL, ret, rm) E C (jQi E C z w') 0 0 0 L0 [] w) : jMI E y ws rm as w z w' := by
  intro l sz
  refine Met.ofW (cc := cc) (maxL := maxL) (ret := ret) hy hw ?_
  intro p e s m args below meth c s₁ B hml hv
  obtain ⟨rfl, hsz, hP, hK, hD0, hN⟩ := hv
  subst hsz
  have hD := hD0.self (sz := s.heap.size)
  have hl := lv_entry as (n := maxL) hn
  rw [lg_entry_eq]
  rw [hL] at hl
  exact h (p, l, e, s, m, as.toArray, below, meth, c, va_A w s.heap.size) ⟨B.exec, B.bytes, hml, findClass_of_methodNamed B.named, atoms_spec (ws := ws) B.pre, hK, fun q hq => Or.inr hq, B.returns, B.notSynchronized, hN⟩ s.heap [] _ hP hD va_S.rf hl
theorem jMV_of {E : jE} {cc : ByteArray} {y : MethodName} {ws ws' : List Cond} {rm : Room} {maxL : Nat} {ret : Option FieldType} {as : List Value} {w w' : va_W} (L0 : List (Nat × Value)) (hy : plainName y.cls = true) (hw : ws = Cond.code y cc maxL ret :: ws') (hL : lv_args 0 as = L0) (hn : (lg_sl as).length ≤ maxL) (h : ∀ C : jC, jG (cc, ws, y.cls, maxL, ret, rm) E C (jQv E C w') 0 0 0 L0 [] w) : jMV E y ws rm as w w' := by
  intro l sz
  refine Met.ofW (cc := cc) (maxL := maxL) (ret := ret) hy hw ?_
  intro p e s m args below meth c s₁ B hml hv
  obtain ⟨rfl, hsz, hP, hK, hD0, hN⟩ := hv
  subst hsz
  have hD := hD0.self (sz := s.heap.size)
  have hl := lv_entry as (n := maxL) hn
  rw [lg_entry_eq]
  rw [hL] at hl
  exact h (p, l, e, s, m, as.toArray, below, meth, c, va_A w s.heap.size) ⟨B.exec, B.bytes, hml, findClass_of_methodNamed B.named, atoms_spec (ws := ws) B.pre, hK, fun q hq => Or.inr hq, B.returns, B.notSynchronized, hN⟩ s.heap [] _ hP hD va_S.rf hl
section
variable {M : jM} {E : jE} {C : jC} {Q : State → Prop} {k n pc : Nat} {L : List (Nat × Value)} {S : List Value} {w : va_W}
theorem j_iret {v z : Int} {w' : va_W} (hd : decode M.1 pc = .ok (.ireturn, 1)) (hr : M.2.2.2.2.1 = some .int) (hv : jI v = jI z) (hw : w = w') : jG M E C (jQi E C z w') 0 0 pc L [.int (jI v)] w := by
  subst hw
  intro hF H locs ls hP hD hS hl
  exact W.iret hF.1 hF.2.1 (hF.2.2.2.2.2.2.2.1.trans hr) (fun t ht hW => ⟨⟨jI v, (), rfl, hv, by rw [ht]; exact hP, hD⟩, hS.F ht⟩) hS.2.2 hd (hlocks := hF.2.2.2.2.2.2.2.2.1)
theorem j_zret {v z : Int} {w' : va_W} (hd : decode M.1 pc = .ok (.ireturn, 1)) (hr : M.2.2.2.2.1 = some .boolean) (hv : v = z) (h01 : v = 0 ∨ v = 1) (hw : w = w') : jG M E C (jQi E C z w') 0 0 pc L [.int (jI v)] w := by
  subst hw; subst hv
  intro hF H locs ls hP hD hS hl
  exact W.zret hF.1 hF.2.1 (hF.2.2.2.2.2.2.2.1.trans hr) (jB_nar2 h01) (fun t ht hW => ⟨⟨jI v, (), rfl, rfl, by rw [ht]; exact hP, hD⟩, hS.F ht⟩) hS.2.2 hd (hlocks := hF.2.2.2.2.2.2.2.2.1)
theorem j_vret {w' : va_W} (hd : decode M.1 pc = .ok (.return_, 1)) (hr : M.2.2.2.2.1 = none) (hw : w = w') : jG M E C (jQv E C w') 0 0 pc L [] w := by
  subst hw
  intro hF H locs ls hP hD hS hl
  exact W.vret hF.1 hF.2.1 (hF.2.2.2.2.2.2.2.1.trans hr) (fun t ht hW => ⟨⟨(), rfl, trivial, by rw [ht]; exact hP, hD⟩, hS.F ht⟩) hS.2.2 hd (hlocks := hF.2.2.2.2.2.2.2.2.1)
/-- the caller's cells with the callee's put back at their places -/
def jPut : va_W → List Nat → va_W → va_W
  | w, k :: ks, c :: cs => jPut (w.set k c) ks cs
  | w, _, _ => w
theorem jPut_at {P : Nat × va_E → Prop} : ∀ (ks : List Nat) (cs w : va_W), ks.length = cs.length → (∀ (j : Nat) (q : Nat × va_E), w[j]? = some q → j ∉ ks → P q) → (∀ (j : Nat) (q : Nat × va_E), cs[j]? = some q → P q) → ∀ (j : Nat) (q : Nat × va_E), (jPut w ks cs)[j]? = some q → P q := by
  intro ks
  induction ks with
  | nil =>
    intro cs w hlen h1 h2 j q hq
    cases cs with
    | nil => exact h1 j q hq List.not_mem_nil
    | cons c cs => cases hlen
  | cons k ks ih =>
    intro cs w hlen h1 h2 j q hq
    cases cs with
    | nil => cases hlen
    | cons c cs =>
      refine ih cs (w.set k c) (Nat.succ.inj hlen) ?_ (fun j q hq => h2 (j + 1) q hq) j q hq
      intro j q hq hj
      by_cases hjk : j = k
      · subst hjk
        have hl : j < w.length := by
          have := (List.getElem?_eq_some_iff.mp hq).1
          simpa using this
        rw [List.getElem?_set_self hl] at hq
        cases hq
        exact h2 0 c rfl
      · rw [List.getElem?_set_ne (Ne.symm hjk)] at hq
        exact h1 j q hq (fun z => (List.mem_cons.mp z).elim hjk hj)
theorem va_D_fst {A : Nat → Prop} {w w' : va_W} (h : w'.map Prod.fst = w.map Prod.fst) (hD : va_D A w) : va_D A w' := by
  have key : ∀ (k : Nat) (q : Nat × va_E), w'[k]? = some q → ∃ q0, w[k]? = some q0 ∧ q0.1 = q.1 := by
    intro k q hq
    have h1 : (w'.map Prod.fst)[k]? = some q.1 := by rw [List.getElem?_map, hq]; rfl
    rw [h, List.getElem?_map] at h1
    cases hk : w[k]? with
    | none => rw [hk] at h1; cases h1
    | some q0 => rw [hk] at h1; exact ⟨q0, rfl, Option.some.inj h1⟩
  refine ⟨fun i j x y hi hj hxy => ?_, fun k q hk => ?_⟩
  · obtain ⟨x0, h1, h2⟩ := key i x hi
    obtain ⟨y0, h3, h4⟩ := key j y hj
    exact hD.1 i j x0 y0 h1 h3 (h2.trans (hxy.trans h4.symm))
  · obtain ⟨q0, h1, h2⟩ := key k q hk
    rw [← h2]
    exact hD.2 k q0 h1
theorem jSub {ks : List Nat} {w wc : va_W} (hks : ks.map (fun i => w[i]?) = wc.map some) : ks.filterMap (fun i => w[i]?) = wc := by
  have h : ∀ (l : List (Option (Nat × va_E))) (c : va_W), l = c.map some → l.filterMap id = c := by
    intro l c e
    subst e
    simp
  have h2 := h _ _ hks
  rw [List.filterMap_map] at h2
  exact h2
/-- behind a call: the world put together again -/
theorem jBack {D : va_G} {A0 : Nat → Prop} {w wc wc' w' : va_W} {H H1 : Heap} (ks : List Nat) (hP : va_P D vwCl w H) (hD : va_D A0 w) (hks : ks.map (fun i => w[i]?) = wc.map some) (hlen : ks.length = wc'.length) (hput : jPut w ks wc' = w') (hfst : w'.map Prod.fst = w.map Prod.fst)
    (hk : ∀ q : Nat, q < H.size → ¬ va_A wc H.size q → H1[q]? = H[q]?) (hP1 : va_P D vwCl wc' H1) : va_P D vwCl w' H1 ∧ va_D A0 w' := by
  refine ⟨?_, va_D_fst hfst hD⟩
  subst hput
  intro j q hq
  refine jPut_at (P := fun q => va_at D vwCl q H1) ks wc' w hlen ?_ (fun j q hq => hP1 j q hq) j q hq
  intro j q hq hj
  refine (hP j q hq).kept (hk q.1 (hP j q hq).lt ?_)
  rintro (⟨i, e, hi⟩ | hi)
  · have h1 : (ks.map (fun i => w[i]?))[i]? = some (some (q.1, e)) := by rw [hks, List.getElem?_map, hi]; rfl
    rw [List.getElem?_map] at h1
    cases hki : ks[i]? with
    | none => rw [hki] at h1; cases h1
    | some i2 =>
      rw [hki] at h1
      have h2 : w[i2]? = some (q.1, e) := Option.some.inj h1
      have := hD.1 j i2 q (q.1, e) hq h2 rfl
      subst this
      exact hj (List.mem_of_getElem? hki)
  · exact absurd (hP j q hq).lt (Nat.not_lt.mpr hi)
/-- what a call needs of the tables, of names and of room -/
def jKs (M : jM) (index : Nat) (y : MethodName) (ws : List Cond) (rm : Room) (na : Nat) : Prop := GoodIn M.2.1 (va_wsS M.2.2.1 index y ws) ∧ (∃ (bytes : ByteArray) (maxL : Nat) (ret : Option FieldType) (ws' : List Cond), ws = Cond.code y bytes maxL ret :: ws' ∧ 8 + (maxL + 11) + rm.locals ≤ M.2.2.2.2.2.locals) ∧ (y.cls ≠ "java/lang/invoke/MethodHandle" ∧ y.cls ≠ "java/lang/invoke/VarHandle" ∧ (parseMethodDescriptor y.desc).map (fun d => d.parameters.length) = some na) ∧ rm.cells = 0 ∧ rm.slots = 0 ∧ rm.frames + 1 ≤ M.2.2.2.2.2.frames
def jKv (M : jM) (index : Nat) (y : MethodName) (ws : List Cond) (rm : Room) (na : Nat) : Prop := GoodIn M.2.1 (wsV M.2.2.1 index y.cls y ws) ∧ (∃ (bytes : ByteArray) (maxL : Nat) (ret : Option FieldType) (ws' : List Cond), ws = Cond.code y bytes maxL ret :: ws' ∧ 8 + (maxL + 11) + rm.locals ≤ M.2.2.2.2.2.locals) ∧ (y.cls ≠ "java/lang/invoke/MethodHandle" ∧ y.cls ≠ "java/lang/invoke/VarHandle" ∧ (parseMethodDescriptor y.desc).map (fun d => d.parameters.length) = some na) ∧ rm.cells = 0 ∧ rm.slots = 0 ∧ rm.frames + 1 ≤ M.2.2.2.2.2.frames
theorem j_callSi {y : MethodName} {ws : List Cond} {rm : Room} {index : Nat} {as St : List Value} {wc wc' : va_W} {z : Int}  (ks : List Nat) (pc' : Nat) (w' : va_W) (hM : jMI E y ws rm (as) wc z wc') (hst : as.reverse ++ S = St) (hK : jKs M index y ws rm as.length) (hks : ks.map (fun i => w[i]?) = wc.map some) (hnd : va_nd ks = true) (hput : jPut w ks wc' = w') (hlen : ks.length = wc'.length) (hfst : w'.map Prod.fst = w.map Prod.fst) (hcat : (S.map fun v => v.category).sum ≤ 8) (hcap : k ≤ M.2.2.2.2.2.cells ∧ n ≤ M.2.2.2.2.2.slots) (hd : decode M.1 pc = .ok (.invokestatic index, 3)) (hn : pc + 3 = pc') (kk : jG M E C Q k n pc' L (.int (jI z) :: S) w') : jG M E C Q k n pc L St w := by
  subst hst; subst hn
  intro hF H locs ls hP hD hS hl
  obtain ⟨hK0, ⟨bytes, maxL, ret, ws', hw1, hlo⟩, hK2, hrc, hrs, hfr⟩ := hK
  have hPc := hP.sub (ws' := wc) ks (jSub hks)
  have hDc := hD.sub (ws' := wc) ks hnd hks
  have hFc := va_free (wc := wc) hD hS hF.2.2.2.2.2.2.1 ks hks
  refine va_calli (va_runS (As := as) (rest := S) ⟨hF.1, hF.2.1, hF.2.2.1, hF.2.2.2.1, hF.2.2.2.2.1⟩ (hM (jcL C) H.size) (va_cwS as.length hF.2.2.2.2.1 hK0 hw1 hrc hrs hK2 ⟨hfr, hlo⟩) ⟨jPc_blind E H.size (as) wc, fun U hU hW => ⟨rfl, by rw [hU], by rw [hU]; exact hPc, va_K.moved hW.alike hF.2.2.2.2.2.1, hDc.weaken (fun _ _ _ _ => trivial), hF.2.2.2.2.2.2.2.2.2.warm hW⟩⟩ rfl rfl hl.1 rfl (lv_room hcat) hd hcap) hS (fun q _ h => hFc q h) hFc (fun r u t H1 locs1 ht hvm hw hB hz1 hk1 hS1 => ?_)
  subst hw
  obtain ⟨hP1, hD1⟩ := hB
  rw [ht] at hP1
  obtain ⟨hP2, hD2⟩ := jBack ks hP hD hks hlen hput hfst hk1 hP1
  exact kk hF H1 locs1 ls hP2 hD2 hS1 hl
theorem j_callSv {y : MethodName} {ws : List Cond} {rm : Room} {index : Nat} {as St : List Value} {wc wc' : va_W}  (ks : List Nat) (pc' : Nat) (w' : va_W) (hM : jMV E y ws rm (as) wc wc') (hst : as.reverse ++ S = St) (hK : jKs M index y ws rm as.length) (hks : ks.map (fun i => w[i]?) = wc.map some) (hnd : va_nd ks = true) (hput : jPut w ks wc' = w') (hlen : ks.length = wc'.length) (hfst : w'.map Prod.fst = w.map Prod.fst) (hcat : (S.map fun v => v.category).sum ≤ 8) (hcap : k ≤ M.2.2.2.2.2.cells ∧ n ≤ M.2.2.2.2.2.slots) (hd : decode M.1 pc = .ok (.invokestatic index, 3)) (hn : pc + 3 = pc') (kk : jG M E C Q k n pc' L (S) w') : jG M E C Q k n pc L St w := by
  subst hst; subst hn
  intro hF H locs ls hP hD hS hl
  obtain ⟨hK0, ⟨bytes, maxL, ret, ws', hw1, hlo⟩, hK2, hrc, hrs, hfr⟩ := hK
  have hPc := hP.sub (ws' := wc) ks (jSub hks)
  have hDc := hD.sub (ws' := wc) ks hnd hks
  have hFc := va_free (wc := wc) hD hS hF.2.2.2.2.2.2.1 ks hks
  refine va_callv (va_runS (As := as) (rest := S) ⟨hF.1, hF.2.1, hF.2.2.1, hF.2.2.2.1, hF.2.2.2.2.1⟩ (hM (jcL C) H.size) (va_cwS as.length hF.2.2.2.2.1 hK0 hw1 hrc hrs hK2 ⟨hfr, hlo⟩) ⟨jPc_blind E H.size (as) wc, fun U hU hW => ⟨rfl, by rw [hU], by rw [hU]; exact hPc, va_K.moved hW.alike hF.2.2.2.2.2.1, hDc.weaken (fun _ _ _ _ => trivial), hF.2.2.2.2.2.2.2.2.2.warm hW⟩⟩ rfl rfl hl.1 rfl (lv_room hcat) hd hcap) hS (fun q _ h => hFc q h) hFc (fun u t H1 locs1 ht hvm hw hB hz1 hk1 hS1 => ?_)
  obtain ⟨hP1, hD1⟩ := hB
  rw [ht] at hP1
  obtain ⟨hP2, hD2⟩ := jBack ks hP hD hks hlen hput hfst hk1 hP1
  exact kk hF H1 locs1 ls hP2 hD2 hS1 hl
theorem j_callVi {y : MethodName} {ws : List Cond} {rm : Room} {index : Nat} {as St : List Value} {wc wc' : va_W} {z : Int} {b ci N : Nat} {fs : List Value} {T : u_T}  (q0 : Nat) (ks : List Nat) (pc' : Nat) (w' : va_W) (hM : jMI E y ws rm (.ref b :: as) wc z wc') (hst : as.reverse ++ .ref b :: S = St) (hK : jKv M index y ws rm as.length) (he : w[q0]? = some (b, .inr (ci, fs))) (hc : vwCl[ci]? = some (y.cls, T, N)) (hks : ks.map (fun i => w[i]?) = wc.map some) (hnd : va_nd ks = true) (hput : jPut w ks wc' = w') (hlen : ks.length = wc'.length) (hfst : w'.map Prod.fst = w.map Prod.fst) (hcat : (S.map fun v => v.category).sum ≤ 8) (hcap : k ≤ M.2.2.2.2.2.cells ∧ n ≤ M.2.2.2.2.2.slots) (hd : decode M.1 pc = .ok (.invokevirtual index, 3)) (hn : pc + 3 = pc') (kk : jG M E C Q k n pc' L (.int (jI z) :: S) w') : jG M E C Q k n pc L St w := by
  subst hst; subst hn
  intro hF H locs ls hP hD hS hl
  obtain ⟨hK0, ⟨bytes, maxL, ret, ws', hw1, hlo⟩, hK2, hrc, hrs, hfr⟩ := hK
  have hPc := hP.sub (ws' := wc) ks (jSub hks)
  have hDc := hD.sub (ws' := wc) ks hnd hks
  have hFc := va_free (wc := wc) hD hS hF.2.2.2.2.2.2.1 ks hks
  refine va_calli (va_runV (As := as) (rest := S) ⟨hF.1, hF.2.1, hF.2.2.1, hF.2.2.2.1, hF.2.2.2.2.1⟩ (hM (jcL C) H.size) (cwV as.length hF.2.2.2.2.1 hK0 hw1 hrc hrs ⟨rfl, hK2⟩ ⟨hfr, hlo⟩) ⟨jPc_blind E H.size (.ref b :: as) wc, va_recv hF.2.2.2.2.2.1 hP hc he, fun U hU hW => ⟨rfl, by rw [hU], by rw [hU]; exact hPc, va_K.moved hW.alike hF.2.2.2.2.2.1, hDc.weaken (fun _ _ _ _ => trivial), hF.2.2.2.2.2.2.2.2.2.warm hW⟩⟩ rfl rfl hl.1 rfl (lv_room hcat) hd hcap) hS (fun q _ h => hFc q h) hFc (fun r u t H1 locs1 ht hvm hw hB hz1 hk1 hS1 => ?_)
  subst hw
  obtain ⟨hP1, hD1⟩ := hB
  rw [ht] at hP1
  obtain ⟨hP2, hD2⟩ := jBack ks hP hD hks hlen hput hfst hk1 hP1
  exact kk hF H1 locs1 ls hP2 hD2 hS1 hl
theorem j_callVv {y : MethodName} {ws : List Cond} {rm : Room} {index : Nat} {as St : List Value} {wc wc' : va_W} {b ci N : Nat} {fs : List Value} {T : u_T}  (q0 : Nat) (ks : List Nat) (pc' : Nat) (w' : va_W) (hM : jMV E y ws rm (.ref b :: as) wc wc') (hst : as.reverse ++ .ref b :: S = St) (hK : jKv M index y ws rm as.length) (he : w[q0]? = some (b, .inr (ci, fs))) (hc : vwCl[ci]? = some (y.cls, T, N)) (hks : ks.map (fun i => w[i]?) = wc.map some) (hnd : va_nd ks = true) (hput : jPut w ks wc' = w') (hlen : ks.length = wc'.length) (hfst : w'.map Prod.fst = w.map Prod.fst) (hcat : (S.map fun v => v.category).sum ≤ 8) (hcap : k ≤ M.2.2.2.2.2.cells ∧ n ≤ M.2.2.2.2.2.slots) (hd : decode M.1 pc = .ok (.invokevirtual index, 3)) (hn : pc + 3 = pc') (kk : jG M E C Q k n pc' L (S) w') : jG M E C Q k n pc L St w := by
  subst hst; subst hn
  intro hF H locs ls hP hD hS hl
  obtain ⟨hK0, ⟨bytes, maxL, ret, ws', hw1, hlo⟩, hK2, hrc, hrs, hfr⟩ := hK
  have hPc := hP.sub (ws' := wc) ks (jSub hks)
  have hDc := hD.sub (ws' := wc) ks hnd hks
  have hFc := va_free (wc := wc) hD hS hF.2.2.2.2.2.2.1 ks hks
  refine va_callv (va_runV (As := as) (rest := S) ⟨hF.1, hF.2.1, hF.2.2.1, hF.2.2.2.1, hF.2.2.2.2.1⟩ (hM (jcL C) H.size) (cwV as.length hF.2.2.2.2.1 hK0 hw1 hrc hrs ⟨rfl, hK2⟩ ⟨hfr, hlo⟩) ⟨jPc_blind E H.size (.ref b :: as) wc, va_recv hF.2.2.2.2.2.1 hP hc he, fun U hU hW => ⟨rfl, by rw [hU], by rw [hU]; exact hPc, va_K.moved hW.alike hF.2.2.2.2.2.1, hDc.weaken (fun _ _ _ _ => trivial), hF.2.2.2.2.2.2.2.2.2.warm hW⟩⟩ rfl rfl hl.1 rfl (lv_room hcat) hd hcap) hS (fun q _ h => hFc q h) hFc (fun u t H1 locs1 ht hvm hw hB hz1 hk1 hS1 => ?_)
  obtain ⟨hP1, hD1⟩ := hB
  rw [ht] at hP1
  obtain ⟨hP2, hD2⟩ := jBack ks hP hD hks hlen hput hfst hk1 hP1
  exact kk hF H1 locs1 ls hP2 hD2 hS1 hl
end
