/-! the calls that read texts, and the questions that try something -/
section
variable {c : Int} {S H : Nat → Nat → Int → Int} {P : Nat → Int → Int} {v : Int → Int} {F : Nat → Int → Int}
theorem kH_rV (S H : Nat → Nat → Int → Int) (v : Int → Int) (r : rRes) : kH S H (rV v r) = kH S H v := by
  have v1 : rV v r 1 = v 1 := by unfold rV; rw [jU_ne (by omega), jU_ne (by omega), jU_ne (by omega), jU_ne (by omega)]
  have v2 : rV v r 2 = v 2 := by unfold rV; rw [jU_ne (by omega), jU_ne (by omega), jU_ne (by omega), jU_ne (by omega)]
  unfold kH
  rw [v1, v2]
theorem kS_120 : kS 0 = 120 := rfl
theorem Inv_fault (h : Inv c S H P v F) (w : Int) : (fltM w (F 4) (F 6 2) (F 6 3) (F 6 4) (F 5)).1 = (mFault S H P v w).1 ∧ InvC (c + 1) (mFault S H P v w).2 (jS (jS F 5 (fltM w (F 4) (F 6 2) (F 6 3) (F 6 4) (F 5)).2.2.2) 6 (jU (jU (F 6) 3 (fltM w (F 4) (F 6 2) (F 6 3) (F 6 4) (F 5)).2.1) 4 (fltM w (F 4) (F 6 2) (F 6 3) (F 6 4) (F 5)).2.2.1)) := by
  have h8 : P 0 = F 4 := h.2.2.2.2.2.2.1
  have e2 : F 6 2 = v 3 := h.2.2.2.2.1.2.2
  have rv3 := h.1.2.2.2.2.2.1
  have inv : ∀ (P' : Nat → Int → Int) (v' : Int → Int) (r : Int → Int) (a b : Int), P' 0 = P 0 → v' 0 = v 0 → v' 1 = v 1 → v' 2 = v 2 → v' 3 = v 3 → Inv (c + 1) S H P' v' (jS (jS F 5 r) 6 (jU (jU (F 6) 3 a) 4 b)) := by
    intro P' v' r a b q0 q1 q2 q3 q4
    refine Inv_v h q0 q1 q2 q3 (by omega) rfl rfl rfl rfl ?_ ?_ ?_
    · show jU (jU (F 6) 3 a) 4 b 0 = _; rw [jU_ne (by omega), jU_ne (by omega)]
    · show jU (jU (F 6) 3 a) 4 b 1 = _; rw [jU_ne (by omega), jU_ne (by omega)]
    · show jU (jU (F 6) 3 a) 4 b 2 = _; rw [jU_ne (by omega), jU_ne (by omega)]; omega
  have hv : ∀ r : rRes, rV v r 0 = v 0 ∧ rV v r 1 = v 1 ∧ rV v r 2 = v 2 ∧ rV v r 3 = v 3 := by
    intro r
    unfold rV
    refine ⟨?_, ?_, ?_, ?_⟩ <;> rw [jU_ne (by omega), jU_ne (by omega), jU_ne (by omega), jU_ne (by omega)]
  unfold mFault
  by_cases c0 : w = 0
  · subst c0
    have k := fX_rA (F 4) (v 3) 60 0 0 0 (v 6) 0 (P 1) (P 2) (F 5) (by omega) (by omega) (fun j h0 h1 => absurd h1 (by omega))
    have e : fltM 0 (F 4) (F 6 2) (F 6 3) (F 6 4) (F 5) = (if (fX 0 (F 4) (F 6 2) 60 0 0 0 (F 5)).1 = 0 then (fX 0 (F 4) (F 6 2) 60 0 0 0 (F 5)).2.1 else -4, (fX 0 (F 4) (F 6 2) 60 0 0 0 (F 5)).2) := if_neg (by omega)
    rw [if_pos rfl, e, e2, h8]
    obtain ⟨X, hX⟩ : ∃ X, X = fX 0 (F 4) (v 3) 60 0 0 0 (F 5) := ⟨_, rfl⟩
    obtain ⟨A, hA⟩ : ∃ A, A = rA (F 4) (v 3) 60 0 0 0 (v 6) 0 (P 1) (P 2) := ⟨_, rfl⟩
    rw [← hX, ← hA] at k
    rw [← hX, ← hA, k.1]
    refine ⟨?_, inv _ _ _ _ _ rfl (hv A).1 (hv A).2.1 (hv A).2.2.1 (hv A).2.2.2⟩
    show (if A.1 = 0 then X.2.1 else -4) = (if A.1 = 0 then A.2.1 else -4)
    rw [k.2.1]
  · rw [if_neg c0]
    by_cases c1 : w = 1
    · subst c1
      have k := fX_rR (F 4) (v 3) 60 0 0 0 (v 6) 0 (P 1) (P 2) (F 5) (by omega) (by omega) (fun j h0 h1 => absurd h1 (by omega))
      have e : fltM 1 (F 4) (F 6 2) (F 6 3) (F 6 4) (F 5) = (if (fX 1 (F 4) (F 6 2) 60 0 0 0 (F 5)).1 = 0 then (fX 1 (F 4) (F 6 2) 60 0 0 0 (F 5)).2.1 else -4, (fX 1 (F 4) (F 6 2) 60 0 0 0 (F 5)).2) := if_neg (by omega)
      rw [if_pos rfl, e, e2, h8]
      obtain ⟨X, hX⟩ : ∃ X, X = fX 1 (F 4) (v 3) 60 0 0 0 (F 5) := ⟨_, rfl⟩
      obtain ⟨A, hA⟩ : ∃ A, A = rR (F 4) (v 3) 60 0 0 (v 6) 0 (P 1) (P 2) := ⟨_, rfl⟩
      rw [← hX, ← hA] at k
      rw [← hX, ← hA, k.1]
      refine ⟨?_, inv _ _ _ _ _ rfl (hv A).1 (hv A).2.1 (hv A).2.2.1 (hv A).2.2.2⟩
      show (if A.1 = 0 then X.2.1 else -4) = (if A.1 = 0 then A.2.1 else -4)
      rw [k.2.1]
    · have e : fltM w (F 4) (F 6 2) (F 6 3) (F 6 4) (F 5) = (-1, F 6 3, F 6 4, F 5) := if_pos (by omega)
      rw [if_neg c1, e]
      exact ⟨rfl, inv _ _ _ _ _ rfl rfl rfl rfl rfl⟩
theorem fT1_keep (h : Inv c S H P v F) (T : tFX) (r : rRes) : Inv c S H (rP P r) (rV v r) (fT1 F T) ∧ Inv (c + 1) S H (rP P r) (rV v r) (fT1 F T) := by
  have key : Inv c S H (rP P r) (rV v r) (fT1 F T) := by
    obtain ⟨⟨okS, okH, rv1, rv2, rv0, rv3, rP0⟩, ⟨h2, h3, h4⟩, h5, h6, ⟨e0, e1, e2⟩, h7, h8, h9⟩ := h
    have v0 : rV v r 0 = v 0 := by unfold rV; rw [jU_ne (by omega), jU_ne (by omega), jU_ne (by omega), jU_ne (by omega)]
    have v1 : rV v r 1 = v 1 := by unfold rV; rw [jU_ne (by omega), jU_ne (by omega), jU_ne (by omega), jU_ne (by omega)]
    have v2 : rV v r 2 = v 2 := by unfold rV; rw [jU_ne (by omega), jU_ne (by omega), jU_ne (by omega), jU_ne (by omega)]
    have v3 : rV v r 3 = v 3 := by unfold rV; rw [jU_ne (by omega), jU_ne (by omega), jU_ne (by omega), jU_ne (by omega)]
    have f6 : ∀ i, i < 3 → fT1 F T 6 i = F 6 i := fun i hi => by
      show jU (jU (F 6) 3 T.2.1) 4 T.2.2.1 i = _
      rw [jU_ne (by omega), jU_ne (by omega)]
    refine ⟨⟨okS, okH, by rw [v1]; exact rv1, by rw [v2]; exact rv2, by rw [v0]; exact rv0, by rw [v3]; exact rv3, rP0⟩, by rw [v3]; exact ⟨h2, h3, h4⟩, h5, by rw [v0]; exact h6, ⟨?_, ?_, ?_⟩, ?_, h8, h9⟩
    · rw [f6 _ (by omega), v0]; exact e0
    · rw [f6 _ (by omega), v2]; exact e1
    · rw [f6 _ (by omega), v3]; exact e2
    · rw [v1, v2]; exact h7
  exact ⟨key, Inv_same key⟩
/-- the signs are gone -/
theorem Inv_end (h : Inv (c + 1) S H P v F) (g : Int) : Inv (c + 1) S H P (jU v 3 0) (jS F 6 (jU (F 6) 2 0)) := by
  obtain ⟨⟨okS, okH, rv1, rv2, rv0, rv3, rP0⟩, ⟨⟨⟨a1, a2, a3⟩, a4⟩, ⟨⟨b1, b2, b3⟩, b4⟩, h4⟩, h5, h6, ⟨e0, e1, e2⟩, h7, h8, h9⟩ := h
  have v3 : jU v 3 0 3 = 0 := jU_at _ _ _
  have vn : ∀ i, i ≠ 3 → jU v 3 0 i = v i := fun i hi => jU_ne hi
  have fn : ∀ i, i ≠ 2 → jU (F 6) 2 0 i = F 6 i := fun i hi => jU_ne hi
  refine ⟨⟨okS, okH, by rw [vn _ (by omega)]; exact rv1, by rw [vn _ (by omega)]; exact rv2, by rw [vn _ (by omega)]; exact rv0, by rw [v3]; omega, rP0⟩, ⟨⟨⟨a1, a2, by rw [v3]; omega⟩, a4⟩, ⟨⟨b1, b2, by rw [v3]; omega⟩, b4⟩, fun k => ?_⟩, h5, by rw [vn _ (by omega)]; exact h6, ⟨?_, ?_, ?_⟩, ?_, h8, h9⟩
  · obtain ⟨⟨d1, d2, d3⟩, d4⟩ := h4 k
    exact ⟨⟨d1, d2, by rw [v3]; omega⟩, d4⟩
  · show jU (F 6) 2 0 0 = _
    rw [fn _ (by omega), vn _ (by omega)]; exact e0
  · show jU (F 6) 2 0 1 = _
    rw [fn _ (by omega), vn _ (by omega)]; exact e1
  · show jU (F 6) 2 0 2 = _
    rw [jU_at, v3]
  · rw [vn _ (by omega), vn _ (by omega)]; exact h7
theorem Inv_rules (h : Inv c S H P v F) {r : rRes} {T : tFX} (hr : r = rR (P 0) (v 3) 60 0 0 (v 6) 0 (P 1) (P 2)) (hT : T = fX 1 (F 4) (F 6 2) 60 0 0 0 (F 5)) : (rRulesM F T).1 = (mRules S H P v r).1 ∧ InvC (c + 1) (mRules S H P v r).2 (rRulesM F T).2 ∧ T.2.2.1 ≤ 100 := by
  have h8 : P 0 = F 4 := h.2.2.2.2.2.2.1
  have e2 : F 6 2 = v 3 := h.2.2.2.2.1.2.2
  have rv3 := h.1.2.2.2.2.2.1
  have k := fX_rR (F 4) (v 3) 60 0 0 0 (v 6) 0 (P 1) (P 2) (F 5) (by omega) (by omega) (fun j h0 h1 => absurd h1 (by omega))
  have ok := rR_ok (P 0) (v 3) 60 0 0 (v 6) 0 (P 1) (P 2) (by omega) (by omega) (fun j h0 h1 => absurd h1 (by omega))
  have cn := rR_cnt (P 0) (v 3) 60 0 0 (v 6) 0 (P 1) (P 2)
  rw [← hr] at ok cn
  rw [← e2, ← hT, e2, ← h8, ← hr] at k
  obtain ⟨kp1, kp2⟩ := fT1_keep h T r
  refine ⟨?_, ?_, by rw [k.2.2.1]; omega⟩
  · unfold rRulesM mRules
    rw [k.1, k.2.2.1]
    split
    · rfl
    · split <;> rfl
  · unfold rRulesM mRules
    rw [k.1, k.2.2.1]
    by_cases c1 : r.1 = 0
    · rw [if_pos c1, if_pos c1]; exact kp2
    · rw [if_neg c1, if_neg c1]
      by_cases c2 : 8 < r.2.2.1
      · rw [if_pos c2, if_pos c2]; exact kp2
      · rw [if_neg c2, if_neg c2]
        have hx := h.1.1 0
        have st := h.2.1.1
        have e : ((r.2.2.1.toNat : Nat) : Int) = r.2.2.1 := by omega
        have okr := sOK_rls (x := S 0) (y := r.2.2.2.2.2.1) (z := r.2.2.2.2.2.2) hx r.2.2.1.toNat (by omega) (by rw [e]; exact ok.1)
        obtain ⟨-, b, d⟩ := sRls_rows (S 0) r.2.2.2.2.2.1 r.2.2.2.2.2.2 r.2.2.1.toNat
        have st' : sSt (sRls (S 0) r.2.2.2.2.2.1 r.2.2.2.2.2.2 r.2.2.1.toNat) (c + 1) (rV v r 3) := by
          have v3 : rV v r 3 = v 3 := by unfold rV; rw [jU_ne (by omega), jU_ne (by omega), jU_ne (by omega), jU_ne (by omega)]
          have b2 := b 2 (by omega) (by omega) (by omega)
          have b3 := b 3 (by omega) (by omega) (by omega)
          have b5 := b 5 (by omega) (by omega) (by omega)
          have d3 := d 3 (by omega)
          rw [v3]
          obtain ⟨⟨a1, a2, a3⟩, a4, a5⟩ := st
          refine ⟨⟨okr, ?_, ?_⟩, by rw [d3]; omega, by rw [d3]; omega⟩
          · unfold sGr
            rw [b2, b3]
            exact a2
          · have : sTot (sRls (S 0) r.2.2.2.2.2.1 r.2.2.2.2.2.2 r.2.2.1.toNat) = sTot (S 0) := by unfold sTot; rw [b2, b5]
            omega
        rw [show kH S H v = kH S H (rV v r) from (kH_rV S H v r).symm]
        have q1 := Inv_step kp1 st' (Rel_rls hx h.2.2.1 (by omega) k.2.2.2)
        have q2 := Inv_end q1 0
        exact q2
end

section
variable {c : Int} {S H : Nat → Nat → Int → Int} {P : Nat → Int → Int} {v : Int → Int} {F : Nat → Int → Int}
/-- a run: the signs that are gone have become apples -/
theorem Inv_endT (h : Inv c S H P v F) {x' : Nat → Int → Int} {f' : Int → Int} (hx' : sInv x' c) (h0 : 0 ≤ x' 9 3) (h1 : x' 9 3 ≤ 200 * (c + 1)) (hr' : Rel x' f') : Inv (c + 1) (cU S 0 x') (kH S H v) P (jU (kV v) 3 0) (jS (jS (fCh F) 0 f') 6 (jU (fCh F 6) 2 0)) := by
  have h' : Inv c S H P (jU v 3 0) (jS F 6 (jU (F 6) 2 0)) := by
    obtain ⟨⟨okS, okH, rv1, rv2, rv0, rv3, rP0⟩, ⟨⟨⟨a1, a2, a3⟩, a4⟩, ⟨⟨b1, b2, b3⟩, b4⟩, h4⟩, h5, h6, ⟨e0, e1, e2⟩, h7, h8, h9⟩ := h
    have v3 : jU v 3 0 3 = 0 := jU_at _ _ _
    have vn : ∀ i, i ≠ 3 → jU v 3 0 i = v i := fun i hi => jU_ne hi
    have fn : ∀ i, i ≠ 2 → jU (F 6) 2 0 i = F 6 i := fun i hi => jU_ne hi
    refine ⟨⟨okS, okH, by rw [vn _ (by omega)]; exact rv1, by rw [vn _ (by omega)]; exact rv2, by rw [vn _ (by omega)]; exact rv0, by rw [v3]; omega, rP0⟩, ⟨⟨⟨a1, a2, by rw [v3]; omega⟩, a4⟩, ⟨⟨b1, b2, by rw [v3]; omega⟩, b4⟩, fun k => ?_⟩, h5, by rw [vn _ (by omega)]; exact h6, ⟨?_, ?_, ?_⟩, ?_, h8, h9⟩
    · obtain ⟨⟨d1, d2, d3⟩, d4⟩ := h4 k
      exact ⟨⟨d1, d2, by rw [v3]; omega⟩, d4⟩
    · show jU (F 6) 2 0 0 = _
      rw [fn _ (by omega), vn _ (by omega)]; exact e0
    · show jU (F 6) 2 0 1 = _
      rw [fn _ (by omega), vn _ (by omega)]; exact e1
    · show jU (F 6) 2 0 2 = _
      rw [jU_at, v3]
    · rw [vn _ (by omega), vn _ (by omega)]; exact h7
  have v3 : jU v 3 0 3 = 0 := jU_at _ _ _
  have s := Inv_step (x' := x') (f' := f') h' ⟨⟨hx'.1, hx'.2.1, by rw [v3]; have := hx'.2.2; omega⟩, h0, h1⟩ hr'
  have ek : kH S H (jU v 3 0) = kH S H v := by
    unfold kH
    rw [jU_ne (by omega), jU_ne (by omega)]
  have ev : kV (jU v 3 0) = jU (kV v) 3 0 := by
    funext i
    unfold kV
    rw [show jU v 3 0 1 = v 1 from jU_ne (by omega), show jU v 3 0 2 = v 2 from jU_ne (by omega)]
    unfold jU
    (repeat' split) <;> first | rfl | omega
  have ef : jU (fCh F 6) 2 0 = fCh (jS F 6 (jU (F 6) 2 0)) 6 := by
    have e1 : jU (F 6) 2 0 1 = F 6 1 := jU_ne (by omega)
    show jU (jU (F 6) 1 (hM (F 6 1) + 1)) 2 0 = jU (jU (F 6) 2 0) 1 (hM (jU (F 6) 2 0 1) + 1)
    rw [e1]
    funext i
    unfold jU
    (repeat' split) <;> first | rfl | omega
  have eF : jS (jS (fCh F) 0 f') 6 (jU (fCh F 6) 2 0) = jS (fCh (jS F 6 (jU (F 6) 2 0))) 0 f' := by
    have e1 : jU (F 6) 2 0 1 = F 6 1 := jU_ne (by omega)
    rw [ef]
    funext i
    by_cases q6 : i = 6
    · subst q6; rfl
    · rw [jS_ne q6]
      by_cases q0 : i = 0
      · subst q0; rfl
      · rw [jS_ne q0, jS_ne q0]
        unfold fCh
        rw [jS_ne q6, jS_ne q6]
        by_cases q1 : i = 1
        · subst q1
          show jCp (F 0) (pSh F) 0 (1200 * hM (F 6 1)) 1200 = jCp (F 0) (if jU (F 6) 2 0 1 = 4 then jCp (F 1) (F 1) 1200 0 3600 else F 1) 0 (1200 * hM (jU (F 6) 2 0 1)) 1200
          rw [e1]; rfl
        · rw [jS_ne q1, jS_ne q1, jS_ne q6]
  rw [ek, ev, ← eF] at s
  exact s
end

section
variable {c : Int} {S H : Nat → Nat → Int → Int} {P : Nat → Int → Int} {v : Int → Int} {F : Nat → Int → Int}
theorem sLay_93 (x : Nat → Int → Int) (t : Int) : sLay x t 9 3 = x 9 3 := by
  show jU (x 9) 2 (x 9 2 + 1) 3 = x 9 3
  exact jU_ne (by omega)
theorem sRun_93 (x : Nat → Int → Int) (y z : Int → Int) (m : Int) : ∀ n : Nat, x 9 3 ≤ (sRun x y z m n).1 9 3 ∧ (sRun x y z m n).1 9 3 ≤ x 9 3 + 4 * n := by
  intro n
  induction n with
  | zero => show x 9 3 ≤ x 9 3 ∧ x 9 3 ≤ x 9 3 + 4 * ((0 : Nat) : Int); omega
  | succ n ih =>
    have e1 : sRun1 (sRun x y z m n).1 y z n 9 3 = (sRun x y z m n).1 9 3 := by
      unfold sRun1
      split
      · rfl
      · exact sLay_93 _ _
    have t := sOver_tick (sRun1 (sRun x y z m n).1 y z n)
    rw [e1] at t
    unfold sRun
    split
    · show x 9 3 ≤ sRun1 (sRun x y z m n).1 y z n 9 3 ∧ sRun1 (sRun x y z m n).1 y z n 9 3 ≤ _
      rw [e1]; omega
    · show x 9 3 ≤ sTick (sRun1 (sRun x y z m n).1 y z n) 9 3 ∧ sTick (sRun1 (sRun x y z m n).1 y z n) 9 3 ≤ _
      omega
theorem Inv_run (h : Inv c S H P v F) (hc : c ≤ 512) {r : rRes} {T : tFX} (hr : r = rA (P 0) (v 3) 60 0 0 0 (v 6) 0 (P 1) (P 2)) (hT : T = fX 0 (F 4) (F 6 2) 60 0 0 0 (F 5)) : ((T.1 = 1 → rAok T.2.2.1 r.2.2.2.2.2.1 r.2.2.2.2.2.2) ∧ (T.1 = 1 → PRA T.2.2.1 r.2.2.2.2.2.1 r.2.2.2.2.2.2 T.2.2.2) ∧ (T.1 = 1 → T.2.2.1 ≤ 30 ∧ T.2.2.1 ≤ v 3)) ∧ (rRunM (S 0) r.2.2.2.2.2.1 r.2.2.2.2.2.2 F T).1 = (mRun S H P v r).1 ∧ InvC (c + 1) (mRun S H P v r).2 (rRunM (S 0) r.2.2.2.2.2.1 r.2.2.2.2.2.2 F T).2 := by
  have h8 : P 0 = F 4 := h.2.2.2.2.2.2.1
  have e2 : F 6 2 = v 3 := h.2.2.2.2.1.2.2
  have rv3 := h.1.2.2.2.2.2.1
  have k := fX_rA (F 4) (v 3) 60 0 0 0 (v 6) 0 (P 1) (P 2) (F 5) (by omega) (by omega) (fun j h0 h1 => absurd h1 (by omega))
  have ok := rA_ok (P 0) (v 3) 60 0 0 0 (v 6) 0 (P 1) (P 2) (by omega) (by omega) (by omega) (Or.inl rfl) (fun j h0 h1 => absurd h1 (by omega))
  rw [← hr] at ok
  rw [← e2, ← hT, e2, ← h8, ← hr] at k
  obtain ⟨kp1, kp2⟩ := fT1_keep h T r
  refine ⟨⟨fun _ => by rw [k.2.2.1]; exact ok.1, fun _ => by rw [k.2.2.1]; exact k.2.2.2, fun q => ?_⟩, ?_, ?_⟩
  · have := ok.2.2 (by omega)
    rw [k.2.2.1]; omega
  · unfold rRunM mRun
    rw [k.1, k.2.2.1]
    split
    · rfl
    · split <;> rfl
  · unfold rRunM mRun
    rw [k.1, k.2.2.1]
    by_cases c1 : r.1 = 0
    · rw [if_pos c1, if_pos c1]; exact kp2
    · rw [if_neg c1, if_neg c1]
      by_cases c2 : 0 < S 0 2 0
      · rw [if_pos c2, if_pos c2]; exact kp2
      · rw [if_neg c2, if_neg c2]
        have hx := h.1.1 0
        have st := h.2.1.1
        have r20 : 0 ≤ S 0 2 0 ∧ S 0 2 0 ≤ 2 := hx 2 0
        have r01 := rA_01 (P 0) (v 3) 60 0 0 0 (v 6) 0 (P 1) (P 2) (by omega)
        rw [← hr] at r01
        have ok2 := ok.2.2 (by omega)
        have hm : r.2.2.1 ≤ v 3 := by omega
        have hm2 : r.2.2.1 ≤ 30 := by omega
        have rr := Rel_run (m := r.2.2.1) st.1 (by omega) (by omega) ok.1 h.2.2.1 r.2.2.1.toNat (by omega)
        have ri := (sRun_inv (m := r.2.2.1) st.1 (by omega) (by omega) ok.1 r.2.2.1.toNat (by omega)).1
        have ro := sRun_93 (S 0) r.2.2.2.2.2.1 r.2.2.2.2.2.2 r.2.2.1 r.2.2.1.toNat
        rw [show kH S H v = kH S H (rV v r) from (kH_rV S H v r).symm]
        have q1 := Inv_endT kp1 ⟨ri.1, ri.2.1, by have := ri.2.2; omega⟩ (by have := st.2; omega) (by have := st.2; omega) rr
        exact q1
end
