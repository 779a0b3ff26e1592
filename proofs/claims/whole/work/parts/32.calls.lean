/-! each call answers the same on both sides, and leaves them alike -/
def mSet (S H : Nat → Nat → Int → Int) (P : Nat → Int → Int) (v : Int → Int) (w a : Int) : Int × cSt := if w < 0 ∨ 2 < w ∨ a < setLo w ∨ setHi w < a then (-1, S, H, P, v) else (if w = 0 then S 0 7 w + 20 else S 0 7 w, cU S 0 (jS (S 0) 7 (jU (S 0 7) w a)), kH S H v, P, kV v)
section
variable {c : Int} {S H : Nat → Nat → Int → Int} {P : Nat → Int → Int} {v : Int → Int} {F : Nat → Int → Int}
theorem Inv_x (h : Inv c S H P v F) (hc : c ≤ 512) : sOK (S 0) ∧ Rel (S 0) (F 0) ∧ sInv (S 0) 512 ∧ sInv (S 0) (512 - v 3) ∧ (0 ≤ F 6 1 ∧ F 6 1 ≤ 4) ∧ (0 ≤ F 6 2 ∧ F 6 2 ≤ 60) := by
  obtain ⟨⟨okS, okH, rv1, rv2, rv0, rv3, rP⟩, ⟨h2, h3, h4⟩, h5, h6, ⟨e0, e1, e2⟩, -⟩ := h
  obtain ⟨⟨a, b, d⟩, -⟩ := h2
  exact ⟨a, h5, ⟨a, b, by omega⟩, ⟨a, b, by omega⟩, by omega, by omega⟩
theorem Inv_lay (h : Inv c S H P v F) (u r b : Int) : (rLay (S 0) F u r b).1 = (mLay S H P v u r b).1 ∧ InvC (c + 1) (mLay S H P v u r b).2 (rLay (S 0) F u r b).2 := by
  have hx := h.1.1 0
  have hr := h.2.2.1
  have st := h.2.1.1
  unfold rLay mLay
  by_cases c1 : tIn u r b = 0
  · rw [if_pos c1, if_pos c1]; exact ⟨rfl, Inv_same h⟩
  · rw [if_neg c1, if_neg c1]
    by_cases c2 : 2 ≤ S 0 2 0
    · rw [if_pos c2, if_pos c2]; exact ⟨rfl, Inv_same h⟩
    · rw [if_neg c2, if_neg c2]
      have tt : (50 ≤ u ∧ u ≤ 300) ∧ (0 ≤ r ∧ r ≤ 100) ∧ (0 ≤ b ∧ b ≤ 9) := by
        unfold tIn at c1
        by_cases q : (50 ≤ u ∧ u ≤ 300) ∧ (0 ≤ r ∧ r ≤ 100) ∧ (0 ≤ b ∧ b ≤ 9)
        · exact q
        · rw [if_neg q] at c1; exact absurd rfl c1
      have tg := tOf_rng tt.1 tt.2.1 tt.2.2
      have k := sInv_lay (t := tOf u r b) st.1 (by omega) tg
      have e3 : sLay (S 0) (tOf u r b) 9 3 = S 0 9 3 := by
        show jU (S 0 9) 2 (S 0 9 2 + 1) 3 = S 0 9 3
        exact jU_ne (by omega)
      refine ⟨rfl, Inv_step h ⟨⟨k.1, k.2.1, by have := k.2.2; omega⟩, ?_⟩ (Rel_lay hx hr (by omega))⟩
      rw [e3]
      have := st.2
      omega
theorem Inv_pass (h : Inv c S H P v F) (hc : c ≤ 512) (t : Int) : (rPass (S 0) F t).1 = (mPass S H P v t).1 ∧ InvC (c + 1) (mPass S H P v t).2 (rPass (S 0) F t).2 := by
  have st := h.2.1.1
  have hr := h.2.2.1
  have rv3 := h.1.2.2.2.2.2.1
  unfold rPass mPass
  by_cases c1 : t < 1 ∨ 30 < t
  · rw [if_pos c1, if_pos c1]; exact ⟨rfl, Inv_same h⟩
  · rw [if_neg c1, if_neg c1]
    have k := sInv_pass st.1 (by omega) t.toNat
    have o := sOver_pass (S 0) st.2.1 t.toNat
    refine ⟨rfl, Inv_step h ⟨⟨k.1, k.2.1, by have := k.2.2; omega⟩, o.1, ?_⟩ (Rel_pass st.1 (by omega) hr t.toNat)⟩
    have := st.2.2
    have := o.2
    omega
theorem Inv_rule (h : Inv c S H P v F) (p u r b l : Int) : (rRule (S 0) F p u r b l).1 = (mRule S H P v p u r b l).1 ∧ InvC (c + 1) (mRule S H P v p u r b l).2 (rRule (S 0) F p u r b l).2 := by
  have hx := h.1.1 0
  have hr := h.2.2.1
  have st := h.2.1.1
  unfold rRule mRule
  by_cases c1 : p < 0 ∨ S 0 9 0 < p ∨ tIn u r b = 0 ∨ l < 0 ∨ 4 ≤ l
  · rw [if_pos c1, if_pos c1]; exact ⟨rfl, Inv_same h⟩
  · rw [if_neg c1, if_neg c1]
    by_cases c2 : 8 ≤ S 0 9 0
    · rw [if_pos c2, if_pos c2]; exact ⟨rfl, Inv_same h⟩
    · rw [if_neg c2, if_neg c2]
      have tt : (50 ≤ u ∧ u ≤ 300) ∧ (0 ≤ r ∧ r ≤ 100) ∧ (0 ≤ b ∧ b ≤ 9) := by
        have c3 : ¬ tIn u r b = 0 := by omega
        unfold tIn at c3
        by_cases q : (50 ≤ u ∧ u ≤ 300) ∧ (0 ≤ r ∧ r ≤ 100) ∧ (0 ≤ b ∧ b ≤ 9)
        · exact q
        · rw [if_neg q] at c3; exact absurd rfl c3
      have tg := tOf_rng tt.1 tt.2.1 tt.2.2
      have ok := sOK_rule (p := p) (t := tOf u r b) (l := l) hx (by omega) tg (by omega)
      obtain ⟨⟨a1, a2, a3⟩, a4, a5⟩ := st
      refine ⟨rfl, Inv_step h ⟨⟨ok, a2, by show sTot (S 0) ≤ _; omega⟩, ?_⟩ (Rel_rule hx hr (by omega) (by omega) tt.1 tt.2.1 tt.2.2)⟩
      have e3 : sRule (S 0) p (tOf u r b) l 9 3 = S 0 9 3 := by
        show jU (S 0 9) 0 (S 0 9 0 + 1) 3 = S 0 9 3
        exact jU_ne (by omega)
      rw [e3]; omega
theorem Inv_drop (h : Inv c S H P v F) (r : Int) : (rDrop (S 0) F r).1 = (mDrop S H P v r).1 ∧ InvC (c + 1) (mDrop S H P v r).2 (rDrop (S 0) F r).2 := by
  have hx := h.1.1 0
  have hr := h.2.2.1
  have st := h.2.1.1
  unfold rDrop mDrop
  by_cases c1 : 0 ≤ r ∧ r < S 0 9 0
  · rw [if_pos c1, if_pos c1]
    obtain ⟨k1, k2⟩ := Rel_out hx hr c1
    obtain ⟨⟨a1, a2, a3⟩, a4, a5⟩ := st
    refine ⟨rfl, Inv_step h ⟨⟨k2, a2, by show sTot (S 0) ≤ _; omega⟩, ?_⟩ k1⟩
    have e3 : sOut (S 0) r 9 3 = S 0 9 3 := by
      show jU (S 0 9) 0 (S 0 9 0 - 1) 3 = S 0 9 3
      exact jU_ne (by omega)
    rw [e3]; omega
  · rw [if_neg c1, if_neg c1]; exact ⟨rfl, Inv_same h⟩
theorem Inv_water (h : Inv c S H P v F) (l : Int) : (rWater (S 0) F l).1 = (mWater S H P v l).1 ∧ InvC (c + 1) (mWater S H P v l).2 (rWater (S 0) F l).2 := by
  have hx := h.1.1 0
  have hr := h.2.2.1
  have st := h.2.1.1
  unfold rWater mWater
  by_cases c1 : 0 ≤ l ∧ l < 4
  · rw [if_pos c1, if_pos c1]
    obtain ⟨⟨a1, a2, a3⟩, a4, a5⟩ := st
    have r8 : ∀ i, S 0 8 i = 0 ∨ S 0 8 i = 1 := hx 8
    have r8l := r8 l
    refine ⟨rfl, Inv_step h ⟨⟨sOK_S hx (jU_all (P := fun z => z = 0 ∨ z = 1) (hx 8) (by omega)), a2, by show sTot (S 0) ≤ _; omega⟩, ?_⟩ (Rel_water hx hr c1)⟩
    show 0 ≤ S 0 9 3 ∧ S 0 9 3 ≤ _
    omega
  · rw [if_neg c1, if_neg c1]; exact ⟨rfl, Inv_same h⟩
theorem Inv_set (h : Inv c S H P v F) (w a : Int) : (rSetM (S 0) F w a).1 = (mSet S H P v w a).1 ∧ InvC (c + 1) (mSet S H P v w a).2 (rSetM (S 0) F w a).2 := by
  have hx := h.1.1 0
  have hr := h.2.2.1
  have st := h.2.1.1
  unfold rSetM mSet
  by_cases c1 : w < 0 ∨ 2 < w ∨ a < setLo w ∨ setHi w < a
  · rw [if_pos c1, if_pos c1]; exact ⟨rfl, Inv_same h⟩
  · rw [if_neg c1, if_neg c1]
    obtain ⟨⟨a1, a2, a3⟩, a4, a5⟩ := st
    have r7 : (-20 ≤ S 0 7 0 ∧ S 0 7 0 ≤ 20) ∧ (0 ≤ S 0 7 1 ∧ S 0 7 1 ≤ 9) ∧ (1 ≤ S 0 7 2 ∧ S 0 7 2 ≤ 20) := hx 7
    have ok : sOK (jS (S 0) 7 (jU (S 0 7) w a)) := by
      refine sOK_S hx ?_
      show (-20 ≤ jU (S 0 7) w a 0 ∧ jU (S 0 7) w a 0 ≤ 20) ∧ (0 ≤ jU (S 0 7) w a 1 ∧ jU (S 0 7) w a 1 ≤ 9) ∧ (1 ≤ jU (S 0 7) w a 2 ∧ jU (S 0 7) w a 2 ≤ 20)
      unfold setLo setHi at c1
      rcases (show w = 0 ∨ w = 1 ∨ w = 2 by omega) with rfl | rfl | rfl
      · rw [if_pos rfl, if_neg (by omega)] at c1
        rw [jU_at, jU_ne (by omega), jU_ne (by omega)]; omega
      · rw [if_neg (by omega), if_pos rfl, if_pos rfl] at c1
        rw [jU_at, jU_ne (by omega), jU_ne (by omega)]; omega
      · rw [if_neg (by omega), if_neg (by omega), if_neg (by omega)] at c1
        rw [jU_at, jU_ne (by omega), jU_ne (by omega)]; omega
    refine ⟨rfl, Inv_step h ⟨⟨ok, a2, by show sTot (S 0) ≤ _; omega⟩, ?_⟩ (Rel_setting hx hr (by omega))⟩
    show 0 ≤ S 0 9 3 ∧ S 0 9 3 ≤ _
    omega
theorem Inv_append (h : Inv c S H P v F) (s : Int) : (rAppend F s).1 = (mAppend S H P v s).1 ∧ InvC (c + 1) (mAppend S H P v s).2 (rAppend F s).2 := by
  have h' := h
  obtain ⟨⟨okS, okH, rv1, rv2, rv0, rv3, rP⟩, ⟨h2, h3, h4⟩, h5, h6, ⟨e0, e1, e2⟩, h7, h8, h9⟩ := h
  unfold rAppend mAppend
  by_cases c1 : s < 33 ∨ 126 < s
  · rw [if_pos c1, if_pos c1]; exact ⟨rfl, Inv_same h'⟩
  · rw [if_neg c1, if_neg c1]
    by_cases c2 : 60 ≤ v 3
    · rw [if_pos (show F 6 2 = 60 by omega), if_pos c2]; exact ⟨rfl, Inv_same h'⟩
    · rw [if_neg (show ¬ F 6 2 = 60 by omega), if_neg c2, e2]
      have v3 : jU v 3 (v 3 + 1) 3 = v 3 + 1 := jU_at _ _ _
      have vn : ∀ i, i ≠ 3 → jU v 3 (v 3 + 1) i = v i := fun i hi => jU_ne hi
      refine ⟨rfl, ?_⟩
      show Inv (c + 1) S H (jS P 0 (jU (P 0) (v 3) s)) (jU v 3 (v 3 + 1)) (jS (jS F 4 (jU (F 4) (v 3) s)) 6 (jU (F 6) 2 (v 3 + 1)))
      refine ⟨⟨okS, okH, by rw [vn 1 (by omega)]; exact rv1, by rw [vn 2 (by omega)]; exact rv2, by rw [vn 0 (by omega)]; exact rv0, by rw [v3]; omega, ?_⟩, ⟨?_, ?_, ?_⟩, h5, ?_, ⟨?_, ?_, ?_⟩, ?_, ?_, ?_⟩
      · intro i
        show 0 ≤ jU (P 0) (v 3) s i ∧ jU (P 0) (v 3) s i < 1000
        exact jU_all (P := fun z => 0 ≤ z ∧ z < 1000) rP (by omega) i
      · rw [v3]; exact sSt_up h2 (by omega)
      · rw [v3]; exact sSt_up h3 (by omega)
      · rw [v3]; exact fun k => sSt_up (h4 k) (by omega)
      · rw [vn 0 (by omega)]; exact h6
      · rw [vn 0 (by omega)]
        show jU (F 6) 2 (v 3 + 1) 0 = v 0
        rw [jU_ne (by omega)]; exact e0
      · rw [vn 2 (by omega)]
        show jU (F 6) 2 (v 3 + 1) 1 = v 2
        rw [jU_ne (by omega)]; exact e1
      · rw [v3]
        show jU (F 6) 2 (v 3 + 1) 2 = v 3 + 1
        rw [jU_at]
      · rw [vn 1 (by omega), vn 2 (by omega)]; exact h7
      · show jU (P 0) (v 3) s = jU (F 4) (v 3) s
        rw [h8]
      · intro i
        show 0 ≤ jU (F 4) (v 3) s i ∧ jU (F 4) (v 3) s i < 1000
        exact jU_all (P := fun z => 0 ≤ z ∧ z < 1000) h9 (by omega) i
/-- the pad's numbers changed, and the signs that were typed at most left out -/
theorem Inv_v (h : Inv c S H P v F) {P' : Nat → Int → Int} {v' : Int → Int} {F' : Nat → Int → Int} (hP : P' 0 = P 0) (h0 : v' 0 = v 0) (h1 : v' 1 = v 1) (h2' : v' 2 = v 2) (h3' : 0 ≤ v' 3 ∧ v' 3 ≤ v 3) (f0 : F' 0 = F 0) (f1 : F' 1 = F 1) (f2 : F' 2 = F 2) (f4 : F' 4 = F 4) (g0 : F' 6 0 = F 6 0) (g1 : F' 6 1 = F 6 1) (g2 : F' 6 2 = v' 3) : Inv (c + 1) S H P' v' F' := by
  obtain ⟨⟨okS, okH, rv1, rv2, rv0, rv3, rP⟩, ⟨h2, h3, h4⟩, h5, h6, ⟨e0, e1, e2⟩, h7, h8, h9⟩ := h
  refine ⟨⟨okS, okH, by rw [h1]; exact rv1, by rw [h2']; exact rv2, by rw [h0]; exact rv0, by omega, by rw [hP]; exact rP⟩, ⟨sSt_up h2 (by omega), sSt_up h3 (by omega), fun k => sSt_up (h4 k) (by omega)⟩, by rw [f0]; exact h5, ?_, ⟨by omega, by omega, g2⟩, ?_, by rw [hP, f4]; exact h8, by rw [f4]; exact h9⟩
  · rw [h0, f2]; exact h6
  · rw [h1, h2', f1]; exact h7
theorem Inv_clear (h : Inv c S H P v F) : F 6 2 = v 3 ∧ Inv (c + 1) S H P (jU v 3 0) (jS F 6 (jU (F 6) 2 0)) := by
  have rv3 := h.1.2.2.2.2.2.1
  refine ⟨h.2.2.2.2.1.2.2, Inv_v h rfl (jU_ne (by omega)) (jU_ne (by omega)) (jU_ne (by omega)) (by rw [jU_at]; omega) rfl rfl rfl rfl ?_ ?_ ?_⟩
  · show jU (F 6) 2 0 0 = _; exact jU_ne (by omega)
  · show jU (F 6) 2 0 1 = _; exact jU_ne (by omega)
  · show jU (F 6) 2 0 2 = _; rw [jU_at, jU_at]
end

section
variable {c : Int} {S H : Nat → Nat → Int → Int} {P : Nat → Int → Int} {v : Int → Int} {F : Nat → Int → Int}
theorem Inv_empty (h : Inv c S H P v F) (l : Int) : (rEmpty (S 0) F l).1 = (mEmpty S H P v l).1 ∧ InvC (c + 1) (mEmpty S H P v l).2 (rEmpty (S 0) F l).2 := by
  have hx := h.1.1 0
  have hr := h.2.2.1
  have st := h.2.1.1
  unfold rEmpty mEmpty
  by_cases c1 : 0 ≤ l ∧ l ≤ 4
  · rw [if_pos c1, if_pos c1]
    obtain ⟨⟨a1, a2, a3⟩, a4, a5⟩ := st
    have r5 : ∀ i, 0 ≤ S 0 5 i ∧ S 0 5 i ≤ 512 ∧ (i < 4 → S 0 5 i ≤ 20) := hx 5
    have r5l := r5 l
    have e : ((l.toNat : Nat) : Int) = l := by omega
    have k5 : sR 5 (jU (S 0 5) l 0) := by
      intro j
      unfold jU
      split
      · omega
      · exact r5 j
    have ok : sOK (sEmpty (S 0) l) := sOK_9 (sOK_S hx k5) (by omega)
    have sj := (jSum_jU (g := S 0 5) (z := 0) l.toNat 5).1 (by omega)
    rw [e] at sj
    have tot : sTot (sEmpty (S 0) l) = sTot (S 0) - S 0 5 l := by
      show jSum (jU (S 0 5) l 0) 5 + jSum (S 0 2) 12 = jSum (S 0 5) 5 + jSum (S 0 2) 12 - S 0 5 l
      omega
    refine ⟨rfl, Inv_step h ⟨⟨ok, a2, by omega⟩, ?_⟩ (Rel_empty hx hr c1)⟩
    have e3 : sEmpty (S 0) l 9 3 = S 0 9 3 := by
      show jU (S 0 9) 6 (S 0 9 6 + S 0 5 l) 3 = S 0 9 3
      exact jU_ne (by omega)
    rw [e3]; omega
  · rw [if_neg c1, if_neg c1]; exact ⟨rfl, Inv_same h⟩
theorem Inv_undo (h : Inv c S H P v F) : (rUndo F).1 = (mUndo S H P v).1 ∧ InvC (c + 1) (mUndo S H P v).2 (rUndo F).2 := by
  have h' := h
  obtain ⟨⟨okS, okH, rv1, rv2, rv0, rv3, rP⟩, ⟨h2, h3, h4⟩, h5, h6, ⟨e0, e1, e2⟩, h7, h8, h9⟩ := h
  unfold rUndo mUndo
  by_cases c1 : v 2 ≤ 0
  · rw [if_pos (show F 6 1 = 0 by omega), if_pos c1]; exact ⟨rfl, Inv_same h'⟩
  · rw [if_neg (show ¬ F 6 1 = 0 by omega), if_neg c1, e1]
    refine ⟨rfl, ?_⟩
    show Inv (c + 1) (cU S 0 (sCp (H (gI (v 1) (v 2))) (S 0))) H P (jU v 2 (v 2 - 1)) (jS (jS F 6 (jU (F 6) 1 (v 2 - 1))) 0 (jCp (F 1) (F 0) (1200 * (v 2 - 1)) 0 1200))
    have v2 : jU v 2 (v 2 - 1) 2 = v 2 - 1 := jU_at _ _ _
    have vn : ∀ i, i ≠ 2 → jU v 2 (v 2 - 1) i = v i := fun i hi => jU_ne hi
    have cp : sSt (sCp (H (gI (v 1) (v 2))) (S 0)) (c + 1) (v 3) := sSt_cp (sSt_up (h4 _) (by omega)) (okS 0)
    have g := h7 (v 2 - 1) (by omega) (by omega)
    have eg : ((v 1 + (v 2 - 1)) % 4).toNat = gI (v 1) (v 2) := rfl
    rw [eg] at g
    refine ⟨⟨cU_all okS cp.1.1, okH, by rw [vn 1 (by omega)]; exact rv1, by rw [v2]; omega, by rw [vn 0 (by omega)]; exact rv0, by rw [vn 3 (by omega)]; exact rv3, rP⟩, ⟨?_, ?_, ?_⟩, ?_, ?_, ⟨?_, ?_, ?_⟩, ?_, ?_, h9⟩
    · rw [vn 3 (by omega)]; exact cp
    · rw [vn 3 (by omega)]; exact sSt_up h3 (by omega)
    · rw [vn 3 (by omega)]; exact fun k => sSt_up (h4 k) (by omega)
    · show Rel (sCp (H (gI (v 1) (v 2))) (S 0)) (jCp (F 1) (F 0) (1200 * (v 2 - 1)) 0 1200)
      refine Rel_ext cp.1.1 (Rel_cp (okH _) g) (fun j j0 j1 => ?_)
      unfold jCp
      rw [if_pos (by omega)]
      congr 1
      omega
    · rw [vn 0 (by omega)]; exact h6
    · rw [vn 0 (by omega)]
      show jU (F 6) 1 (v 2 - 1) 0 = v 0
      rw [jU_ne (by omega)]; exact e0
    · rw [v2]
      show jU (F 6) 1 (v 2 - 1) 1 = v 2 - 1
      rw [jU_at]
    · rw [vn 3 (by omega)]
      show jU (F 6) 1 (v 2 - 1) 2 = v 3
      rw [jU_ne (by omega)]; exact e2
    · rw [vn 1 (by omega), v2]
      exact fun k k0 k1 => h7 k k0 (by omega)
    · exact h8
theorem Inv_save (h : Inv c S H P v F) : Inv (c + 1) (cU S 1 (sCp (S 0) (S 1))) H P (jU v 0 1) (jS (jS F 6 (jU (F 6) 0 1)) 2 (jCp (F 0) (F 2) 0 0 1200)) := by
  obtain ⟨⟨okS, okH, rv1, rv2, rv0, rv3, rP⟩, ⟨h2, h3, h4⟩, h5, h6, ⟨e0, e1, e2⟩, h7, h8, h9⟩ := h
  have v0 : jU v 0 1 0 = 1 := jU_at _ _ _
  have vn : ∀ i, i ≠ 0 → jU v 0 1 i = v i := fun i hi => jU_ne hi
  have cp : sSt (sCp (S 0) (S 1)) (c + 1) (v 3) := sSt_cp (sSt_up h2 (by omega)) (okS 1)
  refine ⟨⟨cU_all okS cp.1.1, okH, by rw [vn 1 (by omega)]; exact rv1, by rw [vn 2 (by omega)]; exact rv2, by rw [v0]; omega, by rw [vn 3 (by omega)]; exact rv3, rP⟩, ⟨?_, ?_, ?_⟩, h5, ?_, ⟨?_, ?_, ?_⟩, ?_, ?_, h9⟩
  · rw [vn 3 (by omega)]; exact sSt_up h2 (by omega)
  · rw [vn 3 (by omega)]; exact cp
  · rw [vn 3 (by omega)]; exact fun k => sSt_up (h4 k) (by omega)
  · intro _
    show Rel (sCp (S 0) (S 1)) (jCp (F 0) (F 2) 0 0 1200)
    exact Rel_ext cp.1.1 (Rel_cp (okS 0) h5) (fun j j0 j1 => jCp_full ⟨j0, j1⟩)
  · rw [v0]
    show jU (F 6) 0 1 0 = 1
    rw [jU_at]
  · rw [vn 2 (by omega)]
    show jU (F 6) 0 1 1 = v 2
    rw [jU_ne (by omega)]; exact e1
  · rw [vn 3 (by omega)]
    show jU (F 6) 0 1 2 = v 3
    rw [jU_ne (by omega)]; exact e2
  · rw [vn 1 (by omega), vn 2 (by omega)]; exact h7
  · exact h8
theorem Inv_restore (h : Inv c S H P v F) : (F 6 0 = 0 ∨ F 6 0 = 1) ∧ (F 6 0 = 1 → Rel (S 1) (jCp (F 2) (F 0) 0 0 1200)) ∧ (rRest (S 1) F).1 = (mRestore S H P v).1 ∧ InvC (c + 1) (mRestore S H P v).2 (rRest (S 1) F).2 := by
  have h' := h
  obtain ⟨⟨okS, okH, rv1, rv2, rv0, rv3, rP⟩, ⟨h2, h3, h4⟩, h5, h6, ⟨e0, e1, e2⟩, h7, h8, h9⟩ := h
  have rr : F 6 0 = 1 → Rel (S 1) (jCp (F 2) (F 0) 0 0 1200) := fun q => Rel_ext (okS 1) (h6 (by omega)) (fun j j0 j1 => jCp_full ⟨j0, j1⟩)
  refine ⟨by omega, rr, ?_⟩
  unfold rRest mRestore
  by_cases c1 : v 0 = 0
  · rw [if_pos (show F 6 0 = 0 by omega), if_pos c1]; exact ⟨rfl, Inv_same h'⟩
  · rw [if_neg (show ¬ F 6 0 = 0 by omega), if_neg c1]
    exact ⟨rfl, Inv_step h' (sSt_cp (sSt_up h3 (by omega)) (okS 0)) (Rel_cp (okS 1) (rr (by omega)))⟩
end
