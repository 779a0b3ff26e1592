/-! the two sides' whole states, held together -/
theorem Rel_ext {x : Nat → Int → Int} {f g : Int → Int} (hx : sOK x) (h : Rel x f) (e : ∀ k, 0 ≤ k → k < 1200 → g k = f k) : Rel x g := by
  have r9 : 0 ≤ x 9 0 ∧ x 9 0 ≤ 8 := hx 9
  obtain ⟨⟨s0, s1, s2⟩, ⟨w0, w1, w2, w3, w4⟩, ⟨u0, u1⟩, hc, hb, ⟨c1, c2, c3, c4, c5, c6⟩⟩ := h
  refine ⟨⟨?_, ?_, ?_⟩, ⟨?_, ?_, ?_, ?_, ?_⟩, ⟨?_, fun i h0 h1 => ?_⟩, ?_, ?_, ⟨?_, ?_, ?_, ?_, ?_, ?_⟩⟩
  · rw [e _ (by omega) (by omega)]; exact s0
  · rw [e _ (by omega) (by omega)]; exact s1
  · rw [e _ (by omega) (by omega)]; exact s2
  · rw [e _ (by omega) (by omega)]; exact w0
  · rw [e _ (by omega) (by omega)]; exact w1
  · rw [e _ (by omega) (by omega)]; exact w2
  · rw [e _ (by omega) (by omega)]; exact w3
  · rw [e _ (by omega) (by omega)]; exact w4
  · rw [e _ (by omega) (by omega)]; exact u0
  · rw [e _ (by omega) (by omega), e _ (by omega) (by omega), e _ (by omega) (by omega), e _ (by omega) (by omega)]; exact u1 i h0 h1
  · exact rCup_kept hx hc rfl rfl rfl (fun k _ _ => e k (by omega) (by omega))
  · intro l h0 h1
    have r5 : ∀ i, 0 ≤ x 5 i ∧ x 5 i ≤ 512 ∧ (i < 4 → x 5 i ≤ 20) := hx 5
    have r5l := r5 l
    have bb : 90 ≤ bxA l ∧ bxA l ≤ 176 := by unfold bxA; split <;> omega
    obtain ⟨a, b⟩ := hb l h0 h1
    refine ⟨?_, fun j j0 j1 => ?_⟩
    · rw [e _ (by omega) (by omega)]; exact a
    · rw [e _ (by omega) (by omega)]; exact b j j0 j1
  · rw [e _ (by omega) (by omega)]; exact c1
  · rw [e _ (by omega) (by omega)]; exact c2
  · rw [e _ (by omega) (by omega)]; exact c3
  · rw [e _ (by omega) (by omega)]; exact c4
  · rw [e _ (by omega) (by omega)]; exact c5
  · rw [e _ (by omega) (by omega)]; exact c6
theorem Rel_cp {x y : Nat → Int → Int} {f : Int → Int} (hy : sOK y) (h : Rel y f) : Rel (sCp y x) f := by
  have r5 : ∀ i, 0 ≤ y 5 i ∧ y 5 i ≤ 512 ∧ (i < 4 → y 5 i ≤ 20) := hy 5
  have r54 := r5 4
  obtain ⟨hs, hw, hr, hc, hb, hn⟩ := h
  refine ⟨hs, hw, hr, hc, fun l h0 h1 => ?_, hn⟩
  have r5l := r5 l
  obtain ⟨a, b⟩ := hb l h0 h1
  refine ⟨a, fun j j0 j1 => ?_⟩
  have j1' : j < y 5 l := j1
  have e : sCp y x 6 (l * 20 + j) = y 6 (l * 20 + j) := by
    show jCp (y 6) (x 6) 0 0 (80 + y 5 4) (l * 20 + j) = _
    refine jCp_full ⟨by omega, ?_⟩
    by_cases q : l = 4
    · subst q; omega
    · omega
  rw [e]
  exact b j j0 j1'
def sSt (x : Nat → Int → Int) (c t : Int) : Prop := sInv x (c - t) ∧ 0 ≤ x 9 3 ∧ x 9 3 ≤ 200 * c
theorem sSt_up {x : Nat → Int → Int} {c t t' : Int} (h : sSt x c t) (ht : t' ≤ t + 1) : sSt x (c + 1) t' := by
  obtain ⟨⟨a, b, d⟩, e, g⟩ := h
  exact ⟨⟨a, b, by omega⟩, e, by omega⟩
theorem sSt_cp {x y : Nat → Int → Int} {c t : Int} (hy : sSt y c t) (hx : sOK x) : sSt (sCp y x) c t := ⟨sInv_cp hy.1 hx, hy.2⟩
def Inv (c : Int) (S H : Nat → Nat → Int → Int) (P : Nat → Int → Int) (v : Int → Int) (F : Nat → Int → Int) : Prop :=
  cOK S H P v ∧ (sSt (S 0) c (v 3) ∧ sSt (S 1) c (v 3) ∧ ∀ k, sSt (H k) c (v 3)) ∧ Rel (S 0) (F 0) ∧ (v 0 = 1 → Rel (S 1) (F 2)) ∧ (F 6 0 = v 0 ∧ F 6 1 = v 2 ∧ F 6 2 = v 3) ∧ (∀ k, 0 ≤ k → k < v 2 → Rel (H ((v 1 + k) % 4).toNat) (fun j => F 1 (1200 * k + j))) ∧ P 0 = F 4 ∧ ∀ i, 0 ≤ F 4 i ∧ F 4 i < 1000
abbrev InvC (c : Int) (t : cSt) (F : Nat → Int → Int) : Prop := Inv c t.1 t.2.1 t.2.2.1 t.2.2.2 F
/-- a call that changes nothing -/
theorem Inv_same {c : Int} {S H : Nat → Nat → Int → Int} {P : Nat → Int → Int} {v : Int → Int} {F : Nat → Int → Int} (h : Inv c S H P v F) : Inv (c + 1) S H P v F := by
  obtain ⟨h1, ⟨h2, h3, h4⟩, h5⟩ := h
  exact ⟨h1, ⟨sSt_up h2 (by omega), sSt_up h3 (by omega), fun k => sSt_up (h4 k) (by omega)⟩, h5⟩
theorem cU_all {p : (Nat → Int → Int) → Prop} {S : Nat → Nat → Int → Int} {k : Nat} {x : Nat → Int → Int} (h : ∀ i, p (S i)) (hx : p x) : ∀ i, p (cU S k x i) := by
  intro i
  by_cases q : i = k
  · subst q; rw [cU_at]; exact hx
  · rw [cU_ne q]; exact h i
/-- a call that keeps the past and changes the state -/
theorem Inv_step {c : Int} {S H : Nat → Nat → Int → Int} {P : Nat → Int → Int} {v : Int → Int} {F : Nat → Int → Int} {x' : Nat → Int → Int} {f' : Int → Int} (h : Inv c S H P v F) (hx' : sSt x' (c + 1) (v 3)) (hr' : Rel x' f') : Inv (c + 1) (cU S 0 x') (kH S H v) P (kV v) (jS (fCh F) 0 f') := by
  obtain ⟨⟨okS, okH, rv1, rv2, rv0, rv3, rP⟩, ⟨h2, h3, h4⟩, h5, h6, ⟨e0, e1, e2⟩, h7, h8, h9⟩ := h
  have rO := hO_rng (sz := v 2) rv1
  have rM := hM_rng rv2
  have v1 : kV v 1 = hO (v 1) (v 2) := by unfold kV; rw [jU_ne (by omega), jU_at]
  have v2 : kV v 2 = hM (v 2) + 1 := by unfold kV; rw [jU_at]
  have v0 : kV v 0 = v 0 := by unfold kV; rw [jU_ne (by omega), jU_ne (by omega)]
  have v3 : kV v 3 = v 3 := by unfold kV; rw [jU_ne (by omega), jU_ne (by omega)]
  have cp : sSt (sCp (S 0) (H (hI (v 1) (v 2)))) (c + 1) (v 3) := sSt_cp (sSt_up h2 (by omega)) (okH _)
  have eI : (hI (v 1) (v 2) : Int) = (hO (v 1) (v 2) + hM (v 2)) % 4 := by unfold hI; omega
  refine ⟨⟨cU_all okS hx'.1.1, cU_all okH cp.1.1, by rw [v1]; exact rO, by rw [v2]; omega, by rw [v0]; exact rv0, by rw [v3]; exact rv3, rP⟩, ⟨?_, ?_, ?_⟩, hr', ?_, ⟨?_, ?_, ?_⟩, ?_, ?_, h9⟩
  · rw [v3]; exact hx'
  · rw [v3]; exact sSt_up h3 (by omega)
  · rw [v3]; exact cU_all (p := fun w => sSt w (c + 1) (v 3)) (fun k => sSt_up (h4 k) (by omega)) cp
  · rw [v0]; exact h6
  · rw [v0]
    show jU (F 6) 1 (hM (F 6 1) + 1) 0 = v 0
    rw [jU_ne (by omega)]; exact e0
  · rw [v2]
    show jU (F 6) 1 (hM (F 6 1) + 1) 1 = hM (v 2) + 1
    rw [jU_at, e1]
  · rw [v3]
    show jU (F 6) 1 (hM (F 6 1) + 1) 2 = v 3
    rw [jU_ne (by omega)]; exact e2
  · intro k h0 h1
    rw [v2] at h1
    rw [v1]
    show Rel (cU H (hI (v 1) (v 2)) (sCp (S 0) (H (hI (v 1) (v 2)))) ((hO (v 1) (v 2) + k) % 4).toNat) (fun j => jCp (F 0) (pSh F) 0 (1200 * hM (F 6 1)) 1200 (1200 * k + j))
    rw [e1]
    by_cases q : k = hM (v 2)
    · have ei : ((hO (v 1) (v 2) + k) % 4).toNat = hI (v 1) (v 2) := by omega
      rw [ei, cU_at]
      refine Rel_ext cp.1.1 (Rel_cp h2.1.1 h5) (fun j j0 j1 => ?_)
      unfold jCp
      rw [if_pos (by omega)]
      congr 1
      omega
    · have ei : ((hO (v 1) (v 2) + k) % 4).toNat ≠ hI (v 1) (v 2) := by omega
      rw [cU_ne ei]
      by_cases c4 : v 2 = 4
      · have eO : hO (v 1) (v 2) = (v 1 + 1) % 4 := if_pos c4
        have eM : hM (v 2) = v 2 - 1 := if_pos c4
        have en : ((hO (v 1) (v 2) + k) % 4).toNat = ((v 1 + (k + 1)) % 4).toNat := by omega
        have g := h7 (k + 1) (by omega) (by omega)
        rw [en]
        refine Rel_ext (okH _) g (fun j j0 j1 => ?_)
        unfold jCp pSh
        rw [if_neg (by omega), if_pos (by omega)]
        unfold jCp
        rw [if_pos (by omega)]
        congr 1
        omega
      · have eO : hO (v 1) (v 2) = v 1 := if_neg c4
        have eM : hM (v 2) = v 2 := if_neg c4
        have g := h7 k h0 (by omega)
        rw [eO]
        refine Rel_ext (okH _) g (fun j j0 j1 => ?_)
        unfold jCp pSh
        rw [if_neg (by omega), if_neg (by omega)]
  · exact h8
