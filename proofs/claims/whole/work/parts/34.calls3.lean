/-! the questions that try something -/
section
variable {c : Int} {S H : Nat → Nat → Int → Int} {P : Nat → Int → Int} {v : Int → Int} {F : Nat → Int → Int}
theorem Inv_S2 (h : Inv c S H P v F) {x' : Nat → Int → Int} {F' : Nat → Int → Int} (ok : sOK x') (f0 : ∀ k, 0 ≤ k → k < 1200 → F' 0 k = F 0 k) (f1 : F' 1 = F 1) (f2 : F' 2 = F 2) (f4 : F' 4 = F 4) (f6 : F' 6 = F 6) : Inv (c + 1) (cU S 2 x') H P v F' := by
  obtain ⟨⟨okS, okH, rv1, rv2, rv0, rv3, rP0⟩, ⟨h2, h3, h4⟩, h5, h6, ⟨e0, e1, e2⟩, h7, h8, h9⟩ := h
  refine ⟨⟨cU_all okS ok, okH, rv1, rv2, rv0, rv3, rP0⟩, ⟨sSt_up h2 (by omega), sSt_up h3 (by omega), fun k => sSt_up (h4 k) (by omega)⟩, Rel_ext (okS 0) h5 f0, ?_, ⟨?_, ?_, ?_⟩, ?_, ?_, ?_⟩
  · rw [f2]; exact h6
  · rw [f6]; exact e0
  · rw [f6]; exact e1
  · rw [f6]; exact e2
  · rw [f1]; exact h7
  · rw [f4]; exact h8
  · rw [f4]; exact h9
/-- the trial's state, as a copy of the one that is -/
theorem Inv_try (h : Inv c S H P v F) (hc : c ≤ 512) : sOK (sCp (S 0) (S 2)) ∧ Rel (sCp (S 0) (S 2)) (F 0) ∧ sInv (sCp (S 0) (S 2)) 512 ∧ (0 ≤ sCp (S 0) (S 2) 9 3 ∧ sCp (S 0) (S 2) 9 3 < 1000000000) ∧ (0 ≤ S 0 9 3 ∧ S 0 9 3 < 1000000000) := by
  have ok0 := h.1.1 0
  have ok2 := h.1.1 2
  have st := h.2.1.1
  have rv3 := h.1.2.2.2.2.2.1
  have ov : 0 ≤ S 0 9 3 ∧ S 0 9 3 < 1000000000 := by have := st.2; omega
  have si : sInv (S 0) 512 := ⟨st.1.1, st.1.2.1, by have := st.1.2.2; omega⟩
  exact ⟨sOK_cp ok0 ok2, Rel_cp ok0 h.2.2.1, sInv_cp si ok2, ov, ov⟩
theorem Inv_if (h : Inv c S H P v F) (hc : c ≤ 512) (t w : Int) : (rIf (sCp (S 0) (S 2)) F t w).1 = (mIf S H P v t w).1 ∧ InvC (c + 1) (mIf S H P v t w).2 (rIf (sCp (S 0) (S 2)) F t w).2 := by
  have g := Inv_try h hc
  unfold rIf mIf
  by_cases c1 : t < 1 ∨ 30 < t ∨ w < 0 ∨ 3 < w
  · rw [if_pos c1, if_pos c1]; exact ⟨rfl, Inv_same h⟩
  · rw [if_neg c1, if_neg c1]
    refine ⟨rfl, ?_⟩
    have q := Inv_S2 (x' := (sPass (sCp (S 0) (S 2)) t.toNat).1) (F' := fIf (sCp (S 0) (S 2)) F t.toNat) h (sInv_pass g.2.2.1 (by omega) t.toNat).1 (fun k k0 k1 => ?_) rfl rfl rfl rfl
    · exact q
    · show jCp (jCp (F 0) (F 3) 0 0 1200) (fPass (sCp (S 0) (S 2)) (F 0) t.toNat) 0 0 1200 k = F 0 k
      rw [jCp_full ⟨k0, k1⟩, jCp_full ⟨k0, k1⟩]
theorem Inv_tight (h : Inv c S H P v F) (r e : Int) : rTight (sCp (S 0) (S 2)) r e = (mTight S H P v r e).1 ∧ InvC (c + 1) (mTight S H P v r e).2 F := by
  have ok := sOK_cp (h.1.1 0) (h.1.1 2)
  have e90 : sCp (S 0) (S 2) 9 0 = S 0 9 0 := rfl
  obtain ⟨T, hT⟩ : ∃ T, T = tgF (sCp (S 0) (S 2)) r e 101 := ⟨_, rfl⟩
  have tr := tgF_rng (sCp (S 0) (S 2)) r e 101
  unfold rTight mTight
  rw [e90, ← hT]
  rw [← hT] at tr
  by_cases c1 : r < 0 ∨ S 0 9 0 ≤ r ∨ e < 1 ∨ 20 < e
  · rw [if_pos c1, if_pos c1]; exact ⟨rfl, Inv_same h⟩
  · rw [if_neg c1, if_neg c1]
    refine ⟨rfl, ?_⟩
    have q := Inv_S2 (x' := tgX (sCp (S 0) (S 2)) r (if T = -4 then 0 else T)) (F' := F) h (sOK_tg ok (by split <;> omega)) (fun k _ _ => rfl) rfl rfl rfl rfl
    exact q
end
