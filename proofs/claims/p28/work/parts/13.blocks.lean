theorem j_aald {M : jM} {E : jE} {C : jC} {Q : State → Prop} {k n pc : Nat} {L : List (Nat × Value)} {S : List Value} {w : va_W} {a nA : Nat} {f : Nat → Nat} {i : Int} (q0 j pc' : Nat) (hd : decode M.1 pc = .ok (.aaload, 1)) (hn : pc + 1 = pc') (ha : w[q0]? = some (a, .inl (E.2.2.2, nA, .inr (.inr (.inr (.inr (fun t => some (f t)))))))) (hA : nA < 2147483648) (hi : i = (j : Int)) (hj : j < nA) (kk : jG M E C Q k n pc' L (.ref (f j) :: S) w) : jG M E C Q k n pc L (.int (jI i) :: .ref a :: S) w := by
  subst hn; subst hi
  intro hF H locs ls hP hD hS hl
  refine va_aldq hF.1 hF.2.1 hF.2.2.2.2.2.1 hP q0 2 ha rfl (jI_in ⟨by omega, by omega⟩ hA) hd ?_
  have e : (jI (j : Int)).toNatClampNeg = j := by
    rw [jI_clamp ⟨by omega, by omega⟩]; omega
  rw [e]
  exact kk hF H locs ls hP hD hS hl
/-! a world as blocks of cells -/
def jFl : List va_W → va_W
  | [] => []
  | [b] => b
  | b :: b2 :: bs => b ++ jFl (b2 :: bs)
theorem jFl_cons (b : va_W) (bs : List va_W) : jFl (b :: bs) = b ++ jFl bs := by
  cases bs with
  | nil => show b = b ++ []; rw [List.append_nil]
  | cons b2 bs => rfl
theorem jFl_at : ∀ {bs : List va_W} {i k : Nat} {b : va_W} {q : Nat × va_E}, bs[i]? = some b → b[k]? = some q → ∃ j, (jFl bs)[j]? = some q ∧ ∀ q', (jFl bs).set j q' = jFl (bs.set i (b.set k q')) := by
  intro bs
  induction bs with
  | nil => intro i k b q h; simp at h
  | cons b0 bs ih =>
    intro i k b q h hk
    cases i with
    | zero =>
      have e : b0 = b := by simpa using h
      subst e
      have hl : k < b0.length := (List.getElem?_eq_some_iff.mp hk).1
      refine ⟨k, ?_, fun q' => ?_⟩
      · rw [jFl_cons, List.getElem?_append_left hl]; exact hk
      · rw [List.set_cons_zero, jFl_cons, jFl_cons, List.set_append_left _ _ hl]
    | succ i =>
      have h' : bs[i]? = some b := by simpa using h
      obtain ⟨j, h1, h2⟩ := ih h' hk
      refine ⟨b0.length + j, ?_, fun q' => ?_⟩
      · rw [jFl_cons, List.getElem?_append_right (by omega), Nat.add_sub_cancel_left]; exact h1
      · rw [List.set_cons_succ, jFl_cons, jFl_cons, List.set_append_right _ _ (by omega), Nat.add_sub_cancel_left, h2]
theorem va_P_mem {D : va_G} {cl : List vw_C} {w : va_W} {H : Heap} : va_P D cl w H ↔ ∀ q ∈ w, va_at D cl q H := by
  constructor
  · intro h q hq
    obtain ⟨k, hk⟩ := List.getElem?_of_mem hq
    exact h k q hk
  · intro h k q hk
    exact h q (List.mem_of_getElem? hk)
theorem va_D_iff {A : Nat → Prop} {w : va_W} : va_D A w ↔ (w.map Prod.fst).Nodup ∧ ∀ q ∈ w, A q.1 := by
  constructor
  · intro h
    refine ⟨?_, fun q hq => ?_⟩
    · refine List.pairwise_iff_getElem.mpr ?_
      intro i j hi hj hij e
      have hi' : i < w.length := by simpa using hi
      have hj' : j < w.length := by simpa using hj
      have e2 : w[i].1 = w[j].1 := by simpa using e
      have := h.1 i j w[i] w[j] (List.getElem?_eq_getElem hi') (List.getElem?_eq_getElem hj') e2
      omega
    · obtain ⟨k, hk⟩ := List.getElem?_of_mem hq
      exact h.2 k q hk
  · intro h
    refine ⟨fun i j p q hi hj e => ?_, fun k q hk => h.2 q (List.mem_of_getElem? hk)⟩
    have hn := List.pairwise_iff_getElem.mp h.1
    obtain ⟨hi1, hi2⟩ := List.getElem?_eq_some_iff.mp hi
    obtain ⟨hj1, hj2⟩ := List.getElem?_eq_some_iff.mp hj
    rcases Nat.lt_trichotomy i j with q1 | q1 | q1
    · exact absurd (by rw [List.getElem_map, List.getElem_map, hi2, hj2]; exact e) (hn i j (by simpa using hi1) (by simpa using hj1) q1)
    · exact q1
    · exact absurd (by rw [List.getElem_map, List.getElem_map, hi2, hj2]; exact e.symm) (hn j i (by simpa using hj1) (by simpa using hi1) q1)
def jClr : List va_W → List Nat → List va_W
  | bs, [] => bs
  | bs, k :: ks => jClr (bs.set k []) ks
def jPutB : List va_W → List Nat → List va_W → List va_W
  | bs, k :: ks, c :: cs => jPutB (bs.set k c) ks cs
  | bs, _, _ => bs
theorem jFl_set : ∀ {bs : List va_W} {i : Nat} {b : va_W}, bs[i]? = some b → ∀ c : va_W, (jFl (bs.set i c)).Perm (c ++ jFl (bs.set i [])) := by
  intro bs
  induction bs with
  | nil => intro i b h; simp at h
  | cons b0 bs ih =>
    intro i b h c
    cases i with
    | zero => rw [List.set_cons_zero, List.set_cons_zero, jFl_cons, jFl_cons]; exact List.Perm.refl _
    | succ i =>
      have h' : bs[i]? = some b := by simpa using h
      rw [List.set_cons_succ, List.set_cons_succ, jFl_cons, jFl_cons]
      have p := (ih h' c).append_left b0
      refine p.trans ?_
      rw [← List.append_assoc, ← List.append_assoc]
      exact List.perm_append_comm.append_right _
theorem jFl_put : ∀ (ks : List Nat) (bs wcs cs : List va_W), ks.Nodup → ks.map (fun i => bs[i]?) = wcs.map some → ks.length = cs.length → (jFl (jPutB bs ks cs)).Perm (jFl cs ++ jFl (jClr bs ks)) := by
  intro ks
  induction ks with
  | nil =>
    intro bs wcs cs _ _ hl
    cases cs with
    | nil => exact List.Perm.refl _
    | cons c cs => cases hl
  | cons k ks ih =>
    intro bs wcs cs hn h hl
    cases cs with
    | nil => cases hl
    | cons c cs =>
      cases wcs with
      | nil => cases h
      | cons wc wcs =>
        rw [List.map_cons, List.map_cons] at h
        obtain ⟨h1, h2⟩ := List.cons.inj h
        obtain ⟨n1, n2⟩ := List.nodup_cons.mp hn
        have hk : k < bs.length := (List.getElem?_eq_some_iff.mp h1).1
        have hset : ∀ z : va_W, ks.map (fun i => (bs.set k z)[i]?) = wcs.map some := fun z => by
          rw [← h2]
          refine List.map_congr_left fun i hi => ?_
          exact List.getElem?_set_ne (fun e => n1 (by rw [e]; exact hi))
        have p1 := ih (bs.set k c) wcs cs n2 (hset c) (Nat.succ.inj hl)
        have p2 := ih (bs.set k []) wcs (wcs) n2 (hset []) (by have := congrArg List.length h2; simpa using this)
        show (jFl (jPutB (bs.set k c) ks cs)).Perm (jFl (c :: cs) ++ jFl (jClr (bs.set k []) ks))
        refine p1.trans ?_
        rw [jFl_cons, List.append_assoc]
        have p3 : (jFl (jClr (bs.set k c) ks)).Perm (c ++ jFl (jClr (bs.set k []) ks)) := by
          clear p1 p2 ih hset h2 hl h
          clear hn n2
          induction ks generalizing bs with
          | nil => exact jFl_set h1 c
          | cons j ks ih2 =>
            have hjk : j ≠ k := fun e => n1 (e ▸ List.mem_cons_self)
            show (jFl (jClr ((bs.set k c).set j []) ks)).Perm (c ++ jFl (jClr ((bs.set k []).set j []) ks))
            rw [List.set_comm _ _ (Ne.symm hjk), List.set_comm _ _ (Ne.symm hjk)]
            exact ih2 (bs.set j []) (by rw [List.getElem?_set_ne hjk]; exact h1) (fun hm => n1 (List.mem_cons_of_mem _ hm)) (by simpa using hk)
        refine (p3.append_left (jFl cs)).trans ?_
        rw [← List.append_assoc, ← List.append_assoc]
        exact List.perm_append_comm.append_right _
theorem jPutB_self : ∀ (ks : List Nat) (bs wcs : List va_W), ks.Nodup → ks.map (fun i => bs[i]?) = wcs.map some → jPutB bs ks wcs = bs := by
  intro ks
  induction ks with
  | nil => intro bs wcs _ _; cases wcs <;> rfl
  | cons k ks ih =>
    intro bs wcs hn h
    cases wcs with
    | nil => rfl
    | cons wc wcs =>
      rw [List.map_cons, List.map_cons] at h
      obtain ⟨h1, h2⟩ := List.cons.inj h
      obtain ⟨n1, n2⟩ := List.nodup_cons.mp hn
      obtain ⟨hk, hk2⟩ := List.getElem?_eq_some_iff.mp h1
      have e : bs.set k wc = bs := by rw [← hk2]; exact List.set_getElem_self hk
      show jPutB (bs.set k wc) ks wcs = bs
      rw [e]
      exact ih bs wcs n2 h2
theorem jFl_fst : ∀ (cs wcs : List va_W), cs.map (fun b => b.map Prod.fst) = wcs.map (fun b => b.map Prod.fst) → (jFl cs).map Prod.fst = (jFl wcs).map Prod.fst := by
  intro cs
  induction cs with
  | nil =>
    intro wcs h
    cases wcs with
    | nil => rfl
    | cons b bs => cases h
  | cons c cs ih =>
    intro wcs h
    cases wcs with
    | nil => cases h
    | cons b bs =>
      rw [List.map_cons, List.map_cons] at h
      obtain ⟨h1, h2⟩ := List.cons.inj h
      rw [jFl_cons, jFl_cons, List.map_append, List.map_append, h1, ih bs h2]
/-- the callee's part of a world of blocks, and the world put together again behind it -/
theorem jCut {D : va_G} {A0 : Nat → Prop} {bs wcs : List va_W} {H : Heap} (ks : List Nat) (hP : va_P D vwCl (jFl bs) H) (hD : va_D A0 (jFl bs)) (hn : ks.Nodup) (hks : ks.map (fun i => bs[i]?) = wcs.map some) : va_P D vwCl (jFl wcs) H ∧ va_D A0 (jFl wcs) := by
  have p := jFl_put ks bs wcs wcs hn hks (by have := congrArg List.length hks; simpa using this)
  rw [jPutB_self ks bs wcs hn hks] at p
  rw [va_P_mem] at hP ⊢
  rw [va_D_iff] at hD ⊢
  refine ⟨fun q hq => hP q (p.mem_iff.mpr (List.mem_append_left _ hq)), ?_, fun q hq => hD.2 q (p.mem_iff.mpr (List.mem_append_left _ hq))⟩
  have h1 := (p.map Prod.fst).nodup_iff.mp hD.1
  rw [List.map_append] at h1
  exact (List.nodup_append.mp h1).1
theorem jBackB {D : va_G} {A0 : Nat → Prop} {bs wcs cs : List va_W} {H H1 : Heap} (ks : List Nat) (hP : va_P D vwCl (jFl bs) H) (hD : va_D A0 (jFl bs)) (hn : ks.Nodup) (hks : ks.map (fun i => bs[i]?) = wcs.map some) (hfst : cs.map (fun b => b.map Prod.fst) = wcs.map (fun b => b.map Prod.fst))
    (hk : ∀ q : Nat, q < H.size → ¬ va_A (jFl wcs) H.size q → H1[q]? = H[q]?) (hP1 : va_P D vwCl (jFl cs) H1) : va_P D vwCl (jFl (jPutB bs ks cs)) H1 ∧ va_D A0 (jFl (jPutB bs ks cs)) := by
  have hl1 : ks.length = wcs.length := by have := congrArg List.length hks; simpa using this
  have hl2 : ks.length = cs.length := by rw [hl1]; have := congrArg List.length hfst; simpa using this.symm
  have p := jFl_put ks bs wcs wcs hn hks hl1
  rw [jPutB_self ks bs wcs hn hks] at p
  have p2 := jFl_put ks bs wcs cs hn hks hl2
  have ef := jFl_fst cs wcs hfst
  rw [va_D_iff] at hD
  have hnd := (p.map Prod.fst).nodup_iff.mp hD.1
  rw [List.map_append] at hnd
  refine ⟨?_, ?_⟩
  · rw [va_P_mem] at hP hP1 ⊢
    intro q hq
    rcases List.mem_append.mp (p2.mem_iff.mp hq) with h | h
    · exact hP1 q h
    · have hq0 := hP q (p.mem_iff.mpr (List.mem_append_right _ h))
      refine hq0.kept (hk q.1 hq0.lt ?_)
      rintro (⟨i, e, hi⟩ | hi)
      · have m1 : q.1 ∈ (jFl wcs).map Prod.fst := List.mem_map.mpr ⟨(q.1, e), List.mem_of_getElem? hi, rfl⟩
        have m2 : q.1 ∈ (jFl (jClr bs ks)).map Prod.fst := List.mem_map.mpr ⟨q, h, rfl⟩
        exact (List.nodup_append.mp hnd).2.2 _ m1 _ m2 rfl
      · exact absurd hq0.lt (Nat.not_lt.mpr hi)
  · have e2 : ((jFl (jPutB bs ks cs)).map Prod.fst).Perm ((jFl bs).map Prod.fst) := by
      refine (p2.map Prod.fst).trans ?_
      rw [List.map_append, ef, ← List.map_append]
      exact (p.map Prod.fst).symm
    rw [va_D_iff]
    refine ⟨e2.nodup_iff.mpr hD.1, fun q hq => ?_⟩
    have m : q.1 ∈ (jFl bs).map Prod.fst := e2.mem_iff.mp (List.mem_map.mpr ⟨q, hq, rfl⟩)
    obtain ⟨q0, h0, h1⟩ := List.mem_map.mp m
    rw [← h1]
    exact hD.2 q0 h0
section
variable {M : jM} {E : jE} {C : jC} {Q : State → Prop} {k n pc : Nat} {L : List (Nat × Value)} {S : List Value} {bs : List va_W} {b : va_W}
theorem j_getB {T : u_T} {N ci index a : Nat} {Cn : String} {fs : List Value} {v : Value} (qb q0 kf il pc' : Nat) (hin : ∀ x ∈ u_ws Cn T N, x ∈ M.2.1) (hd : decode M.1 pc = .ok (.getfield index, 3)) (hn : pc + 3 = pc') (hb : bs[qb]? = some b) (he : b[q0]? = some (a, .inr (ci, fs))) (hc : vwCl[ci]? = some (Cn, T, N)) (hk : kf < N) (hil : M.2.1[il]? = some (.fieldLink M.2.2.1 index (T kf).1 (T kf).2.1 (T kf).2.2.1)) (hv : fs[kf]? = some v) (kk : jG M E C Q k n pc' L (v :: S) (jFl bs)) : jG M E C Q k n pc L (.ref a :: S) (jFl bs) := by
  obtain ⟨j0, h1, h2⟩ := jFl_at hb he
  exact j_get j0 kf il pc' hin hd hn h1 hc hk hil hv kk
theorem j_getNB {T : u_T} {N ci index a : Nat} {Cn host : String} {fs : List Value} {v : Value} (qb q0 kf il pc' : Nat) (hin : ∀ x ∈ u_ws Cn T N, x ∈ M.2.1) (hd : decode M.1 pc = .ok (.getfield index, 3)) (hn : pc + 3 = pc') (hb : bs[qb]? = some b) (he : b[q0]? = some (a, .inr (ci, fs))) (hc : vwCl[ci]? = some (Cn, T, N)) (hk : kf < N) (hil : jNest[il]? = some (.fieldLinkNest M.2.2.1 index (T kf).1 (T kf).2.1 (T kf).2.2.1 host)) (hv : fs[kf]? = some v) (kk : jG M E C Q k n pc' L (v :: S) (jFl bs)) : jG M E C Q k n pc L (.ref a :: S) (jFl bs) := by
  obtain ⟨j0, h1, h2⟩ := jFl_at hb he
  exact j_getN j0 kf il pc' hin hd hn h1 hc hk hil hv kk
theorem j_ialdB {a nA : Nat} {g : Int → Int} {i : Int} (qb q0 pc' : Nat) (hd : decode M.1 pc = .ok (.iaload, 1)) (hn : pc + 1 = pc') (hb : bs[qb]? = some b) (ha : b[q0]? = some (a, .inl (E.2.1, nA, .inl (jA g)))) (hA : nA < 2147483648) (hi : 0 ≤ i ∧ i < (nA : Int)) (kk : jG M E C Q k n pc' L (.int (jI (g i)) :: S) (jFl bs)) : jG M E C Q k n pc L (.int (jI i) :: .ref a :: S) (jFl bs) := by
  obtain ⟨j0, h1, h2⟩ := jFl_at hb ha
  exact j_iald j0 pc' hd hn h1 hA hi kk
theorem j_zaldB {a nA : Nat} {g : Int → Int} {i : Int} (qb q0 pc' : Nat) (hd : decode M.1 pc = .ok (.baload, 1)) (hn : pc + 1 = pc') (hb : bs[qb]? = some b) (ha : b[q0]? = some (a, .inl (E.2.2.1, nA, .inl (jA g)))) (hA : nA < 2147483648) (hi : 0 ≤ i ∧ i < (nA : Int)) (kk : jG M E C Q k n pc' L (.int (jI (g i)) :: S) (jFl bs)) : jG M E C Q k n pc L (.int (jI i) :: .ref a :: S) (jFl bs) := by
  obtain ⟨j0, h1, h2⟩ := jFl_at hb ha
  exact j_zald j0 pc' hd hn h1 hA hi kk
theorem j_aaldB {a nA : Nat} {f : Nat → Nat} {i : Int} (qb q0 j pc' : Nat) (hd : decode M.1 pc = .ok (.aaload, 1)) (hn : pc + 1 = pc') (hb : bs[qb]? = some b) (ha : b[q0]? = some (a, .inl (E.2.2.2, nA, .inr (.inr (.inr (.inr (fun t => some (f t)))))))) (hA : nA < 2147483648) (hi : i = (j : Int)) (hj : j < nA) (kk : jG M E C Q k n pc' L (.ref (f j) :: S) (jFl bs)) : jG M E C Q k n pc L (.int (jI i) :: .ref a :: S) (jFl bs) := by
  obtain ⟨j0, h1, h2⟩ := jFl_at hb ha
  exact j_aald j0 j pc' hd hn h1 hA hi hj kk
theorem j_putB {T : u_T} {N ci index a : Nat} {Cn : String} {fs : List Value} {v : Value} {ty : FieldType} (qb q0 kf il pc' : Nat) (b' : va_W) (bs' : List va_W) (ty0 : Nat → FieldType) (hty : ∀ q, q < N → parseFieldDescriptor (T q).2.2.1 = some (ty0 q)) (hnm : ∀ a, a < N → ∀ b, b < N → a ≠ b → (T a).2.1 ≠ (T b).2.1) (hin : ∀ x ∈ u_ws Cn T N, x ∈ M.2.1) (hd : decode M.1 pc = .ok (.putfield index, 3)) (hn : pc + 3 = pc') (hb : bs[qb]? = some b) (he : b[q0]? = some (a, .inr (ci, fs))) (hc : vwCl[ci]? = some (Cn, T, N)) (hk : kf < N) (hil : M.2.1[il]? = some (.fieldLink M.2.2.1 index (T kf).1 (T kf).2.1 (T kf).2.2.1)) (hfin : (T kf).2.2.2 = false) (ht : ty0 kf = ty) (hnr : narrow ty v = v) (hft : fits ty v = true) (hl0 : kf < fs.length) (hw : b.set q0 (a, .inr (ci, fs.set kf v)) = b') (hbs : bs.set qb b' = bs') (kk : jG M E C Q k n pc' L S (jFl bs')) : jG M E C Q k n pc L (v :: .ref a :: S) (jFl bs) := by
  obtain ⟨j0, h1, h2⟩ := jFl_at hb he
  exact j_put j0 kf il pc' (jFl bs') ty0 hty hnm hin hd hn h1 hc hk hil hfin ht hnr hft hl0 (by rw [h2, hw, hbs]) kk
theorem j_putNB {T : u_T} {N ci index a : Nat} {Cn host : String} {fs : List Value} {v : Value} {ty : FieldType} (qb q0 kf il pc' : Nat) (b' : va_W) (bs' : List va_W) (ty0 : Nat → FieldType) (hty : ∀ q, q < N → parseFieldDescriptor (T q).2.2.1 = some (ty0 q)) (hnm : ∀ a, a < N → ∀ b, b < N → a ≠ b → (T a).2.1 ≠ (T b).2.1) (hin : ∀ x ∈ u_ws Cn T N, x ∈ M.2.1) (hd : decode M.1 pc = .ok (.putfield index, 3)) (hn : pc + 3 = pc') (hb : bs[qb]? = some b) (he : b[q0]? = some (a, .inr (ci, fs))) (hc : vwCl[ci]? = some (Cn, T, N)) (hk : kf < N) (hil : jNest[il]? = some (.fieldLinkNest M.2.2.1 index (T kf).1 (T kf).2.1 (T kf).2.2.1 host)) (hfin : (T kf).2.2.2 = false) (ht : ty0 kf = ty) (hnr : narrow ty v = v) (hft : fits ty v = true) (hl0 : kf < fs.length) (hw : b.set q0 (a, .inr (ci, fs.set kf v)) = b') (hbs : bs.set qb b' = bs') (kk : jG M E C Q k n pc' L S (jFl bs')) : jG M E C Q k n pc L (v :: .ref a :: S) (jFl bs) := by
  obtain ⟨j0, h1, h2⟩ := jFl_at hb he
  exact j_putN j0 kf il pc' (jFl bs') ty0 hty hnm hin hd hn h1 hc hk hil hfin ht hnr hft hl0 (by rw [h2, hw, hbs]) kk
theorem j_iastB {a nA : Nat} {g : Int → Int} {i z : Int} (qb q0 pc' : Nat) (b' : va_W) (bs' : List va_W) (hd : decode M.1 pc = .ok (.iastore, 1)) (hn : pc + 1 = pc') (hb : bs[qb]? = some b) (ha : b[q0]? = some (a, .inl (E.2.1, nA, .inl (jA g)))) (hA : nA < 2147483648) (hi : 0 ≤ i ∧ i < (nA : Int)) (hw : b.set q0 (a, .inl (E.2.1, nA, .inl (jA (jU g i z)))) = b') (hbs : bs.set qb b' = bs') (kk : jG M E C Q k n pc' L S (jFl bs')) : jG M E C Q k n pc L (.int (jI z) :: .int (jI i) :: .ref a :: S) (jFl bs) := by
  obtain ⟨j0, h1, h2⟩ := jFl_at hb ha
  exact j_iast j0 pc' (jFl bs') hd hn h1 hA hi (by rw [h2, hw, hbs]) kk
theorem j_zastB {a nA : Nat} {g : Int → Int} {i z : Int} (qb q0 pc' : Nat) (b' : va_W) (bs' : List va_W) (hd : decode M.1 pc = .ok (.bastore, 1)) (hn : pc + 1 = pc') (hb : bs[qb]? = some b) (ha : b[q0]? = some (a, .inl (E.2.2.1, nA, .inl (jA g)))) (hA : nA < 2147483648) (hi : 0 ≤ i ∧ i < (nA : Int)) (hz : z = 0 ∨ z = 1) (hw : b.set q0 (a, .inl (E.2.2.1, nA, .inl (jA (jU g i z)))) = b') (hbs : bs.set qb b' = bs') (kk : jG M E C Q k n pc' L S (jFl bs')) : jG M E C Q k n pc L (.int (jI z) :: .int (jI i) :: .ref a :: S) (jFl bs) := by
  obtain ⟨j0, h1, h2⟩ := jFl_at hb ha
  exact j_zast j0 pc' (jFl bs') hd hn h1 hA hi hz (by rw [h2, hw, hbs]) kk
theorem va_nd_nodup : ∀ (l : List Nat), va_nd l = true → l.Nodup
  | [], _ => List.nodup_nil
  | a :: l, h => by
    simp only [va_nd, Bool.and_eq_true, decide_eq_true_eq] at h
    exact List.nodup_cons.mpr ⟨h.1, va_nd_nodup l h.2⟩
theorem j_callSiB {y : MethodName} {ws : List Cond} {rm : Room} {index : Nat} {as St : List Value} {wc wc' : va_W} {wcs cs : List va_W} {z : Int}  (ks : List Nat) (pc' : Nat) (bs' : List va_W) (hM : jMI E y ws rm (as) wc z wc') (hwc : wc = jFl wcs) (hwc' : wc' = jFl cs) (hst : as.reverse ++ S = St) (hK : jKs M index y ws rm as.length) (hks : ks.map (fun i => bs[i]?) = wcs.map some) (hnd : va_nd ks = true) (hput : jPutB bs ks cs = bs') (hfst : cs.map (fun b => b.map Prod.fst) = wcs.map (fun b => b.map Prod.fst)) (hcat : (S.map fun v => v.category).sum ≤ 8) (hcap : k ≤ M.2.2.2.2.2.cells ∧ n ≤ M.2.2.2.2.2.slots) (hd : decode M.1 pc = .ok (.invokestatic index, 3)) (hn : pc + 3 = pc') (kk : jG M E C Q k n pc' L (.int (jI z) :: S) (jFl bs')) : jG M E C Q k n pc L St (jFl bs) := by
  subst hst; subst hn; subst hwc; subst hwc'; subst hput
  intro hF H locs ls hP hD hS hl
  obtain ⟨hK0, ⟨bytes, maxL, ret, ws', hw1, hlo⟩, hK2, hrc, hrs, hfr⟩ := hK
  have hN := va_nd_nodup _ hnd
  obtain ⟨hPc, hDc⟩ := jCut ks hP hD hN hks
  have hFc : ∀ q, va_A (jFl wcs) H.size q → jcA C q := fun q h => by
    rcases h with ⟨i, e, h⟩ | h
    · exact hDc.2 i (q, e) h
    · exact hF.2.2.2.2.2.2.1 q (Nat.le_trans hS.1 h)
  refine va_calli (va_runS (As := as) (rest := S) ⟨hF.1, hF.2.1, hF.2.2.1, hF.2.2.2.1, hF.2.2.2.2.1⟩ (hM (jcL C) H.size) (va_cwS as.length hF.2.2.2.2.1 hK0 hw1 hrc hrs hK2 ⟨hfr, hlo⟩) ⟨jPc_blind E H.size (as) (jFl wcs), fun U hU hW => ⟨rfl, by rw [hU], by rw [hU]; exact hPc, va_K.moved hW.alike hF.2.2.2.2.2.1, hDc.weaken (fun _ _ _ _ => trivial), hF.2.2.2.2.2.2.2.2.2.warm hW⟩⟩ rfl rfl hl.1 rfl (lv_room hcat) hd hcap) hS (fun q _ h => hFc q h) hFc (fun r u t H1 locs1 ht hvm hw hB hz1 hk1 hS1 => ?_)
  subst hw
  obtain ⟨hP1, hD1⟩ := hB
  rw [ht] at hP1
  obtain ⟨hP2, hD2⟩ := jBackB ks hP hD hN hks hfst hk1 hP1
  exact kk hF H1 locs1 ls hP2 hD2 hS1 hl
theorem j_callSvB {y : MethodName} {ws : List Cond} {rm : Room} {index : Nat} {as St : List Value} {wc wc' : va_W} {wcs cs : List va_W}  (ks : List Nat) (pc' : Nat) (bs' : List va_W) (hM : jMV E y ws rm (as) wc wc') (hwc : wc = jFl wcs) (hwc' : wc' = jFl cs) (hst : as.reverse ++ S = St) (hK : jKs M index y ws rm as.length) (hks : ks.map (fun i => bs[i]?) = wcs.map some) (hnd : va_nd ks = true) (hput : jPutB bs ks cs = bs') (hfst : cs.map (fun b => b.map Prod.fst) = wcs.map (fun b => b.map Prod.fst)) (hcat : (S.map fun v => v.category).sum ≤ 8) (hcap : k ≤ M.2.2.2.2.2.cells ∧ n ≤ M.2.2.2.2.2.slots) (hd : decode M.1 pc = .ok (.invokestatic index, 3)) (hn : pc + 3 = pc') (kk : jG M E C Q k n pc' L (S) (jFl bs')) : jG M E C Q k n pc L St (jFl bs) := by
  subst hst; subst hn; subst hwc; subst hwc'; subst hput
  intro hF H locs ls hP hD hS hl
  obtain ⟨hK0, ⟨bytes, maxL, ret, ws', hw1, hlo⟩, hK2, hrc, hrs, hfr⟩ := hK
  have hN := va_nd_nodup _ hnd
  obtain ⟨hPc, hDc⟩ := jCut ks hP hD hN hks
  have hFc : ∀ q, va_A (jFl wcs) H.size q → jcA C q := fun q h => by
    rcases h with ⟨i, e, h⟩ | h
    · exact hDc.2 i (q, e) h
    · exact hF.2.2.2.2.2.2.1 q (Nat.le_trans hS.1 h)
  refine va_callv (va_runS (As := as) (rest := S) ⟨hF.1, hF.2.1, hF.2.2.1, hF.2.2.2.1, hF.2.2.2.2.1⟩ (hM (jcL C) H.size) (va_cwS as.length hF.2.2.2.2.1 hK0 hw1 hrc hrs hK2 ⟨hfr, hlo⟩) ⟨jPc_blind E H.size (as) (jFl wcs), fun U hU hW => ⟨rfl, by rw [hU], by rw [hU]; exact hPc, va_K.moved hW.alike hF.2.2.2.2.2.1, hDc.weaken (fun _ _ _ _ => trivial), hF.2.2.2.2.2.2.2.2.2.warm hW⟩⟩ rfl rfl hl.1 rfl (lv_room hcat) hd hcap) hS (fun q _ h => hFc q h) hFc (fun u t H1 locs1 ht hvm hw hB hz1 hk1 hS1 => ?_)
  obtain ⟨hP1, hD1⟩ := hB
  rw [ht] at hP1
  obtain ⟨hP2, hD2⟩ := jBackB ks hP hD hN hks hfst hk1 hP1
  exact kk hF H1 locs1 ls hP2 hD2 hS1 hl
theorem j_callViB {y : MethodName} {ws : List Cond} {rm : Room} {index : Nat} {as St : List Value} {wc wc' : va_W} {wcs cs : List va_W} {z : Int} {b ci N : Nat} {fs : List Value} {T : u_T} {b0 : va_W}  (qb q0 : Nat) (ks : List Nat) (pc' : Nat) (bs' : List va_W) (hM : jMI E y ws rm (.ref b :: as) wc z wc') (hwc : wc = jFl wcs) (hwc' : wc' = jFl cs) (hst : as.reverse ++ .ref b :: S = St) (hK : jKv M index y ws rm as.length) (hb : bs[qb]? = some b0) (he : b0[q0]? = some (b, .inr (ci, fs))) (hc : vwCl[ci]? = some (y.cls, T, N)) (hks : ks.map (fun i => bs[i]?) = wcs.map some) (hnd : va_nd ks = true) (hput : jPutB bs ks cs = bs') (hfst : cs.map (fun b => b.map Prod.fst) = wcs.map (fun b => b.map Prod.fst)) (hcat : (S.map fun v => v.category).sum ≤ 8) (hcap : k ≤ M.2.2.2.2.2.cells ∧ n ≤ M.2.2.2.2.2.slots) (hd : decode M.1 pc = .ok (.invokevirtual index, 3)) (hn : pc + 3 = pc') (kk : jG M E C Q k n pc' L (.int (jI z) :: S) (jFl bs')) : jG M E C Q k n pc L St (jFl bs) := by
  subst hst; subst hn; subst hwc; subst hwc'; subst hput
  intro hF H locs ls hP hD hS hl
  obtain ⟨hK0, ⟨bytes, maxL, ret, ws', hw1, hlo⟩, hK2, hrc, hrs, hfr⟩ := hK
  have hN := va_nd_nodup _ hnd
  obtain ⟨hPc, hDc⟩ := jCut ks hP hD hN hks
  have hFc : ∀ q, va_A (jFl wcs) H.size q → jcA C q := fun q h => by
    rcases h with ⟨i, e, h⟩ | h
    · exact hDc.2 i (q, e) h
    · exact hF.2.2.2.2.2.2.1 q (Nat.le_trans hS.1 h)
  obtain ⟨j0, he1, -⟩ := jFl_at hb he
  refine va_calli (va_runV (As := as) (rest := S) ⟨hF.1, hF.2.1, hF.2.2.1, hF.2.2.2.1, hF.2.2.2.2.1⟩ (hM (jcL C) H.size) (cwV as.length hF.2.2.2.2.1 hK0 hw1 hrc hrs ⟨rfl, hK2⟩ ⟨hfr, hlo⟩) ⟨jPc_blind E H.size (.ref b :: as) (jFl wcs), va_recv hF.2.2.2.2.2.1 hP hc he1, fun U hU hW => ⟨rfl, by rw [hU], by rw [hU]; exact hPc, va_K.moved hW.alike hF.2.2.2.2.2.1, hDc.weaken (fun _ _ _ _ => trivial), hF.2.2.2.2.2.2.2.2.2.warm hW⟩⟩ rfl rfl hl.1 rfl (lv_room hcat) hd hcap) hS (fun q _ h => hFc q h) hFc (fun r u t H1 locs1 ht hvm hw hB hz1 hk1 hS1 => ?_)
  subst hw
  obtain ⟨hP1, hD1⟩ := hB
  rw [ht] at hP1
  obtain ⟨hP2, hD2⟩ := jBackB ks hP hD hN hks hfst hk1 hP1
  exact kk hF H1 locs1 ls hP2 hD2 hS1 hl
theorem j_callVvB {y : MethodName} {ws : List Cond} {rm : Room} {index : Nat} {as St : List Value} {wc wc' : va_W} {wcs cs : List va_W} {b ci N : Nat} {fs : List Value} {T : u_T} {b0 : va_W}  (qb q0 : Nat) (ks : List Nat) (pc' : Nat) (bs' : List va_W) (hM : jMV E y ws rm (.ref b :: as) wc wc') (hwc : wc = jFl wcs) (hwc' : wc' = jFl cs) (hst : as.reverse ++ .ref b :: S = St) (hK : jKv M index y ws rm as.length) (hb : bs[qb]? = some b0) (he : b0[q0]? = some (b, .inr (ci, fs))) (hc : vwCl[ci]? = some (y.cls, T, N)) (hks : ks.map (fun i => bs[i]?) = wcs.map some) (hnd : va_nd ks = true) (hput : jPutB bs ks cs = bs') (hfst : cs.map (fun b => b.map Prod.fst) = wcs.map (fun b => b.map Prod.fst)) (hcat : (S.map fun v => v.category).sum ≤ 8) (hcap : k ≤ M.2.2.2.2.2.cells ∧ n ≤ M.2.2.2.2.2.slots) (hd : decode M.1 pc = .ok (.invokevirtual index, 3)) (hn : pc + 3 = pc') (kk : jG M E C Q k n pc' L (S) (jFl bs')) : jG M E C Q k n pc L St (jFl bs) := by
  subst hst; subst hn; subst hwc; subst hwc'; subst hput
  intro hF H locs ls hP hD hS hl
  obtain ⟨hK0, ⟨bytes, maxL, ret, ws', hw1, hlo⟩, hK2, hrc, hrs, hfr⟩ := hK
  have hN := va_nd_nodup _ hnd
  obtain ⟨hPc, hDc⟩ := jCut ks hP hD hN hks
  have hFc : ∀ q, va_A (jFl wcs) H.size q → jcA C q := fun q h => by
    rcases h with ⟨i, e, h⟩ | h
    · exact hDc.2 i (q, e) h
    · exact hF.2.2.2.2.2.2.1 q (Nat.le_trans hS.1 h)
  obtain ⟨j0, he1, -⟩ := jFl_at hb he
  refine va_callv (va_runV (As := as) (rest := S) ⟨hF.1, hF.2.1, hF.2.2.1, hF.2.2.2.1, hF.2.2.2.2.1⟩ (hM (jcL C) H.size) (cwV as.length hF.2.2.2.2.1 hK0 hw1 hrc hrs ⟨rfl, hK2⟩ ⟨hfr, hlo⟩) ⟨jPc_blind E H.size (.ref b :: as) (jFl wcs), va_recv hF.2.2.2.2.2.1 hP hc he1, fun U hU hW => ⟨rfl, by rw [hU], by rw [hU]; exact hPc, va_K.moved hW.alike hF.2.2.2.2.2.1, hDc.weaken (fun _ _ _ _ => trivial), hF.2.2.2.2.2.2.2.2.2.warm hW⟩⟩ rfl rfl hl.1 rfl (lv_room hcat) hd hcap) hS (fun q _ h => hFc q h) hFc (fun u t H1 locs1 ht hvm hw hB hz1 hk1 hS1 => ?_)
  obtain ⟨hP1, hD1⟩ := hB
  rw [ht] at hP1
  obtain ⟨hP2, hD2⟩ := jBackB ks hP hD hN hks hfst hk1 hP1
  exact kk hF H1 locs1 ls hP2 hD2 hS1 hl
end
theorem jFl_off : ∀ {bs : List va_W} {i : Nat} {b : va_W}, bs[i]? = some b → ∃ off, (∀ k : Nat, k < b.length → (jFl bs)[off + k]? = b[k]?) ∧ ∀ (k : Nat) (q : Nat × va_E), k < b.length → (jFl bs).set (off + k) q = jFl (bs.set i (b.set k q)) := by
  intro bs
  induction bs with
  | nil => intro i b h; simp at h
  | cons b0 bs ih =>
    intro i b h
    cases i with
    | zero =>
      have e : b0 = b := by simpa using h
      subst e
      refine ⟨0, fun k hk => ?_, fun k q hk => ?_⟩
      · rw [jFl_cons, Nat.zero_add, List.getElem?_append_left hk]
      · rw [List.set_cons_zero, jFl_cons, jFl_cons, Nat.zero_add, List.set_append_left _ _ hk]
    | succ i =>
      have h' : bs[i]? = some b := by simpa using h
      obtain ⟨off, h1, h2⟩ := ih h'
      refine ⟨b0.length + off, fun k hk => ?_, fun k q hk => ?_⟩
      · rw [jFl_cons, List.getElem?_append_right (by omega), Nat.add_assoc, Nat.add_sub_cancel_left]; exact h1 k hk
      · rw [List.set_cons_succ, jFl_cons, jFl_cons, List.set_append_right _ _ (by omega), Nat.add_assoc, Nat.add_sub_cancel_left, h2 k q hk]
theorem jPut_off : ∀ (ks : List Nat) (cs : va_W) (bs : List va_W) (i : Nat) (b : va_W) (off : Nat), bs[i]? = some b → (∀ (b : va_W) (k : Nat) (q : Nat × va_E), bs[i]? = some b → k < b.length → (jFl bs).set (off + k) q = jFl (bs.set i (b.set k q))) → (∀ (b2 : va_W) (k : Nat) (q : Nat × va_E), b2.length = b.length → k < b2.length → (jFl (bs.set i b2)).set (off + k) q = jFl (bs.set i (b2.set k q))) → (∀ k ∈ ks, k < b.length) → ∀ b2 : va_W, b2.length = b.length → jPut (jFl (bs.set i b2)) (ks.map (fun k => off + k)) cs = jFl (bs.set i (jPut b2 ks cs)) := by
  intro ks
  induction ks with
  | nil => intro cs bs i b off hb h1 h2 hk b2 hl; cases cs <;> rfl
  | cons k ks ih =>
    intro cs bs i b off hb h1 h2 hk b2 hl
    cases cs with
    | nil => rfl
    | cons c cs =>
      show jPut ((jFl (bs.set i b2)).set (off + k) c) (ks.map (fun k => off + k)) cs = jFl (bs.set i (jPut (b2.set k c) ks cs))
      rw [h2 b2 k c hl (by rw [hl]; exact hk k List.mem_cons_self)]
      exact ih cs bs i b off hb h1 h2 (fun j hj => hk j (List.mem_cons_of_mem _ hj)) (b2.set k c) (by rw [List.length_set]; exact hl)
theorem jFl_off2 : ∀ {bs : List va_W} {i : Nat} {b : va_W}, bs[i]? = some b → ∃ off, (∀ k : Nat, k < b.length → (jFl bs)[off + k]? = b[k]?) ∧ ∀ (b2 : va_W) (k : Nat) (q : Nat × va_E), b2.length = b.length → k < b2.length → (jFl (bs.set i b2)).set (off + k) q = jFl (bs.set i (b2.set k q)) := by
  intro bs
  induction bs with
  | nil => intro i b h; simp at h
  | cons b0 bs ih =>
    intro i b h
    cases i with
    | zero =>
      have e : b0 = b := by simpa using h
      subst e
      refine ⟨0, fun k hk => ?_, fun b2 k q _ hk => ?_⟩
      · rw [jFl_cons, Nat.zero_add, List.getElem?_append_left hk]
      · rw [List.set_cons_zero, List.set_cons_zero, jFl_cons, jFl_cons, Nat.zero_add, List.set_append_left _ _ hk]
    | succ i =>
      have h' : bs[i]? = some b := by simpa using h
      obtain ⟨off, h1, h2⟩ := ih h'
      refine ⟨b0.length + off, fun k hk => ?_, fun b2 k q hl hk => ?_⟩
      · rw [jFl_cons, List.getElem?_append_right (by omega), Nat.add_assoc, Nat.add_sub_cancel_left]; exact h1 k hk
      · rw [List.set_cons_succ, List.set_cons_succ, jFl_cons, jFl_cons, List.set_append_right _ _ (by omega), Nat.add_assoc, Nat.add_sub_cancel_left, h2 b2 k q hl hk]
theorem jPut_len : ∀ (ks : List Nat) (cs w : va_W), (jPut w ks cs).length = w.length := by
  intro ks
  induction ks with
  | nil => intro cs w; cases cs <;> rfl
  | cons k ks ih =>
    intro cs w
    cases cs with
    | nil => rfl
    | cons c cs => show (jPut (w.set k c) ks cs).length = _; rw [ih, List.length_set]
theorem va_nd_of : ∀ (l : List Nat), l.Nodup → va_nd l = true
  | [], _ => rfl
  | a :: l, h => by
    have := List.nodup_cons.mp h
    simp only [va_nd, Bool.and_eq_true, decide_eq_true_eq]
    exact ⟨this.1, va_nd_of l this.2⟩
theorem jFl_set_fst : ∀ {bs : List va_W} {i : Nat} {b b' : va_W}, bs[i]? = some b → b'.map Prod.fst = b.map Prod.fst → (jFl (bs.set i b')).map Prod.fst = (jFl bs).map Prod.fst := by
  intro bs i b b' hb h
  refine jFl_fst _ _ ?_
  rw [List.map_set, h]
  have e : (bs.map (fun b => b.map Prod.fst))[i]? = some (b.map Prod.fst) := by rw [List.getElem?_map, hb]; rfl
  obtain ⟨hi, he⟩ := List.getElem?_eq_some_iff.mp e
  rw [← he]
  exact List.set_getElem_self hi
/-- all that a call needs, of cells that lie in one block -/
theorem jPart {bs : List va_W} {b wc wc' b' : va_W} {i : Nat} (ks : List Nat) (hb : bs[i]? = some b) (hks : ks.map (fun k => b[k]?) = wc.map some) (hnd : va_nd ks = true) (hput : jPut b ks wc' = b') (hlen : ks.length = wc'.length) (hfst : b'.map Prod.fst = b.map Prod.fst) : ∃ off : Nat, ((ks.map (fun k => off + k)).map (fun j => (jFl bs)[j]?) = wc.map some) ∧ va_nd (ks.map (fun k => off + k)) = true ∧ jPut (jFl bs) (ks.map (fun k => off + k)) wc' = jFl (bs.set i b') ∧ (ks.map (fun k => off + k)).length = wc'.length ∧ (jFl (bs.set i b')).map Prod.fst = (jFl bs).map Prod.fst ∧ ∀ (k : Nat) (q : Nat × va_E), b[k]? = some q → (jFl bs)[off + k]? = some q := by
  obtain ⟨off, h1, h2⟩ := jFl_off2 hb
  have hlt : ∀ k ∈ ks, k < b.length := by
    intro k hk
    have m : b[k]? ∈ wc.map some := by rw [← hks]; exact List.mem_map.mpr ⟨k, hk, rfl⟩
    obtain ⟨q, -, hq⟩ := List.mem_map.mp m
    exact (List.getElem?_eq_some_iff.mp hq.symm).1
  obtain ⟨hi, hi2⟩ := List.getElem?_eq_some_iff.mp hb
  have eself : bs.set i b = bs := by rw [← hi2]; exact List.set_getElem_self hi
  refine ⟨off, ?_, ?_, ?_, ?_, jFl_set_fst hb hfst, fun k q hq => ?_⟩
  · rw [← hks, List.map_map]
    exact List.map_congr_left fun k hk => h1 k (hlt k hk)
  · refine va_nd_of _ ?_
    refine List.pairwise_map.mpr ((va_nd_nodup _ hnd).imp ?_)
    intro a c h e
    exact h (by omega)
  · have g := jPut_off ks wc' bs i b off hb (fun b3 k q h3 hk => by rw [hb] at h3; cases h3; have := h2 b k q rfl hk; rw [eself] at this; exact this) h2 hlt b rfl
    rw [eself, hput] at g
    exact g
  · rw [List.length_map]; exact hlen
  · rw [h1 k (List.getElem?_eq_some_iff.mp hq).1]; exact hq
section
variable {M : jM} {E : jE} {C : jC} {Q : State → Prop} {k n pc : Nat} {L : List (Nat × Value)} {S : List Value} {bs : List va_W} {b0 : va_W}
theorem j_callViP {y : MethodName} {ws : List Cond} {rm : Room} {index : Nat} {as St : List Value} {wc wc' : va_W} {z : Int} {b ci N : Nat} {fs : List Value} {T : u_T} (qb q0 : Nat) (ks : List Nat) (pc' : Nat) (b' : va_W) (bs' : List va_W) (hM : jMI E y ws rm (.ref b :: as) wc z wc') (hst : as.reverse ++ .ref b :: S = St) (hK : jKv M index y ws rm as.length) (hb : bs[qb]? = some b0) (he : b0[q0]? = some (b, .inr (ci, fs))) (hc : vwCl[ci]? = some (y.cls, T, N)) (hks : ks.map (fun i => b0[i]?) = wc.map some) (hnd : va_nd ks = true) (hput : jPut b0 ks wc' = b') (hlen : ks.length = wc'.length) (hfst : b'.map Prod.fst = b0.map Prod.fst) (hbs : bs.set qb b' = bs') (hcat : (S.map fun v => v.category).sum ≤ 8) (hcap : k ≤ M.2.2.2.2.2.cells ∧ n ≤ M.2.2.2.2.2.slots) (hd : decode M.1 pc = .ok (.invokevirtual index, 3)) (hn : pc + 3 = pc') (kk : jG M E C Q k n pc' L (.int (jI z) :: S) (jFl bs')) : jG M E C Q k n pc L St (jFl bs) := by
  subst hbs
  obtain ⟨off, h1, h2, h3, h4, h5, h6⟩ := jPart ks hb hks hnd hput hlen hfst
  exact j_callVi (off + q0) _ pc' _ hM hst hK (h6 q0 _ he) hc h1 h2 h3 h4 h5 hcat hcap hd hn kk
theorem j_callVvP {y : MethodName} {ws : List Cond} {rm : Room} {index : Nat} {as St : List Value} {wc wc' : va_W} {b ci N : Nat} {fs : List Value} {T : u_T} (qb q0 : Nat) (ks : List Nat) (pc' : Nat) (b' : va_W) (bs' : List va_W) (hM : jMV E y ws rm (.ref b :: as) wc wc') (hst : as.reverse ++ .ref b :: S = St) (hK : jKv M index y ws rm as.length) (hb : bs[qb]? = some b0) (he : b0[q0]? = some (b, .inr (ci, fs))) (hc : vwCl[ci]? = some (y.cls, T, N)) (hks : ks.map (fun i => b0[i]?) = wc.map some) (hnd : va_nd ks = true) (hput : jPut b0 ks wc' = b') (hlen : ks.length = wc'.length) (hfst : b'.map Prod.fst = b0.map Prod.fst) (hbs : bs.set qb b' = bs') (hcat : (S.map fun v => v.category).sum ≤ 8) (hcap : k ≤ M.2.2.2.2.2.cells ∧ n ≤ M.2.2.2.2.2.slots) (hd : decode M.1 pc = .ok (.invokevirtual index, 3)) (hn : pc + 3 = pc') (kk : jG M E C Q k n pc' L (S) (jFl bs')) : jG M E C Q k n pc L St (jFl bs) := by
  subst hbs
  obtain ⟨off, h1, h2, h3, h4, h5, h6⟩ := jPart ks hb hks hnd hput hlen hfst
  exact j_callVv (off + q0) _ pc' _ hM hst hK (h6 q0 _ he) hc h1 h2 h3 h4 h5 hcat hcap hd hn kk
end
