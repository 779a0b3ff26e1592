set_option maxRecDepth 100000 in
set_option maxHeartbeats 4000000 in
/-- the law's loop: at its head, c calls made, both sides alike -/
theorem law_loop {E : jE} {p : Program} {l : Launch} {e : Env} {s : State} {m : MethodId} {below : List Frame} {meth : Method} {cd : Code} {b L0 k n : Nat} {A : Nat → Prop} {xs : Nat → Int32} (hAs : ∀ q, A q → s.heap.size ≤ q) (hk : k ≤ 600000 ∧ n ≤ 7302250) (hX : va_X b L0 xs s s.heap) (hbl : b < s.heap.size) (hL0 : L0 ≤ 3072) (hT2 : jT2 A s) (ad qh : Nat → Nat → Nat) (q : Nat → Nat) : ∀ (r : Nat) (c i : Int), 0 ≤ c → i = 6 * c → (L0 : Int) < 6 * c + r → 6 * c ≤ (L0 : Int) + 6 → ∀ (S H : Nat → Nat → Int → Int) (P : Nat → Int → Int) (v : Int → Int) (F : Nat → Int → Int), Inv c S H P v F → jG mL E (p, l, e, s, m, #[.ref b], below, meth, cd, A) (lw_Z below #[.ref b] s) k n 18 [(3, .int (jI i)), (2, .ref (q 0)), (1, .ref (ad 7 0)), (0, .ref b)] [] (jFl [wEye E ad qh S H P v, wModel E q F]) := by
  have hbA : ¬ A b := fun z => absurd (hAs b z) (Nat.not_le.mpr hbl)
  have hL : L0 < 2147483648 := by omega
  intro r
  induction r with
  | zero =>
    intro c i h0 hi hr h6 S H P v F h
    refine j_iload_n 0 19 dL_law_18 rfl rfl ?_
    refine j_aload_n 3 20 dL_law_19 rfl rfl ?_
    refine j_slen 21 hX hbl hbA hL dL_law_20 rfl ?_
    refine j_bipush 23 dL_law_21 rfl (by decide) ?_
    refine j_isub 24 dL_law_23 rfl ?_
    refine j_icmp_gt 887 27 dL_law_24 rfl (by decide) (by omega) (by omega) (fun _ => ?_) (fun z => absurd z (by omega))
    refine j_iconst 888 dL_law_887 rfl ?_
    exact j_lret hAs hk
  | succ r ih =>
    intro c i h0 hi hr h6 S H P v F h
    refine j_iload_n 0 19 dL_law_18 rfl rfl ?_
    refine j_aload_n 3 20 dL_law_19 rfl rfl ?_
    refine j_slen 21 hX hbl hbA hL dL_law_20 rfl ?_
    refine j_bipush 23 dL_law_21 rfl (by decide) ?_
    refine j_isub 24 dL_law_23 rfl ?_
    refine j_icmp_gt 887 27 dL_law_24 rfl (by decide) (by omega) (by omega) (fun _ => ?_) (fun hin => ?_)
    · refine j_iconst 888 dL_law_887 rfl ?_
      exact j_lret hAs hk
    · have ok : lOk (p, l, e, s, m, #[.ref b], below, meth, cd, A) b L0 xs i := ⟨hX, hbl, hbA, hL0, by omega, by omega⟩
      have hc : c ≤ 511 := by omega
      have go : lGo E (p, l, e, s, m, #[.ref b], below, meth, cd, A) (lw_Z below #[.ref b] s) k n b ad qh q i (c + 1) := fun S H P v F h => ih (c + 1) (i + 6) (by omega) (by omega) (by omega) (by omega) S H P v F h
      refine j_aload_n 3 28 dL_law_27 rfl rfl ?_
      refine j_iload_n 0 29 dL_law_28 rfl rfl ?_
      refine j_sld 30 hX hbl hbA hL (by omega) dL_law_29 rfl ?_
      refine j_bipush 32 dL_law_30 rfl (by decide) ?_
      refine j_iand 33 dL_law_32 rfl (fun z hz => ?_)
      rcases (show z = 0 ∨ z = 1 ∨ z = 2 ∨ z = 3 ∨ z = 4 ∨ z = 5 ∨ z = 6 ∨ z = 7 ∨ z = 8 ∨ z = 9 ∨ z = 10 ∨ z = 11 ∨ z = 12 ∨ z = 13 ∨ z = 14 ∨ z = 15 ∨ z = 16 ∨ z = 17 ∨ z = 18 ∨ z = 19 ∨ z = 20 ∨ z = 21 ∨ z = 22 ∨ z = 23 ∨ z = 24 ∨ (z < 0 ∨ 24 < z) by omega) with hq | hq | hq | hq | hq | hq | hq | hq | hq | hq | hq | hq | hq | hq | hq | hq | hq | hq | hq | hq | hq | hq | hq | hq | hq | hq
      · refine j_tabIn 0 148 hq dL_law_33 (by decide) rfl (by decide) ?_
        exact law_lay ok hk hc go h
      · refine j_tabIn 1 191 hq dL_law_33 (by decide) rfl (by decide) ?_
        exact law_pass ok hk hc go h
      · refine j_tabIn 2 214 hq dL_law_33 (by decide) rfl (by decide) ?_
        exact law_rule ok hk hc go h
      · refine j_tabIn 3 277 hq dL_law_33 (by decide) rfl (by decide) ?_
        exact law_drop ok hk hc go h
      · refine j_tabIn 4 300 hq dL_law_33 (by decide) rfl (by decide) ?_
        exact law_water ok hk hc go h
      · refine j_tabIn 5 323 hq dL_law_33 (by decide) rfl (by decide) ?_
        exact law_empty ok hk hc go h
      · refine j_tabIn 6 346 hq dL_law_33 (by decide) rfl (by decide) ?_
        exact law_set hT2 ok hk hc go h
      · refine j_tabIn 7 379 hq dL_law_33 (by decide) rfl (by decide) ?_
        exact law_append ok hk hc go h
      · refine j_tabIn 8 402 hq dL_law_33 (by decide) rfl (by decide) ?_
        exact law_clear ok hk hc go h
      · refine j_tabIn 9 415 hq dL_law_33 (by decide) rfl (by decide) ?_
        exact law_fault ok hk hc go h
      · refine j_tabIn 10 438 hq dL_law_33 (by decide) rfl (by decide) ?_
        exact law_rules ok hk hc go h
      · refine j_tabIn 11 451 hq dL_law_33 (by decide) rfl (by decide) ?_
        exact law_run ok hk hc go h
      · refine j_tabIn 12 464 hq dL_law_33 (by decide) rfl (by decide) ?_
        exact law_cup ok hk hc go h
      · refine j_tabIn 13 497 hq dL_law_33 (by decide) rfl (by decide) ?_
        exact law_apple ok hk hc go h
      · refine j_tabIn 14 540 hq dL_law_33 (by decide) rfl (by decide) ?_
        exact law_box ok hk hc go h
      · refine j_tabIn 15 573 hq dL_law_33 (by decide) rfl (by decide) ?_
        exact law_ruleOf ok hk hc go h
      · refine j_tabIn 16 606 hq dL_law_33 (by decide) rfl (by decide) ?_
        exact law_lane ok hk hc go h
      · refine j_tabIn 17 659 hq dL_law_33 (by decide) rfl (by decide) ?_
        exact law_misses ok hk hc go h
      · refine j_tabIn 18 712 hq dL_law_33 (by decide) rfl (by decide) ?_
        exact law_count ok hk hc go h
      · refine j_tabIn 19 735 hq dL_law_33 (by decide) rfl (by decide) ?_
        exact law_right ok hk hc go h
      · refine j_tabIn 20 776 hq dL_law_33 (by decide) rfl (by decide) ?_
        exact law_ifPassed ok hk hc go h
      · refine j_tabIn 21 809 hq dL_law_33 (by decide) rfl (by decide) ?_
        exact law_tightest ok hk hc go h
      · refine j_tabIn 22 842 hq dL_law_33 (by decide) rfl (by decide) ?_
        exact law_undo ok hk hc go h
      · refine j_tabIn 23 855 hq dL_law_33 (by decide) rfl (by decide) ?_
        exact law_save ok hk hc go h
      · refine j_tabIn 24 868 hq dL_law_33 (by decide) rfl (by decide) ?_
        exact law_restore ok hk hc go h
      · refine j_tabOut 881 dL_law_33 hz hq (by decide) ?_
        exact law_next go (Inv_same h)
