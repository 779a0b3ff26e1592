/-! a tick of the law's cells -/
theorem sInv_ds {x : Nat → Int → Int} {N : Int} (h : sInv x N) (hN : N ≤ 512) : ∀ n : Nat, n ≤ 4 → sInv (sDs (sT3 x) n).1 N := by
  intro n
  induction n with
  | zero => intro _; exact sT3_inv h hN
  | succ n ih => intro hn; exact sDrX_inv n (by omega) (ih (by omega))
abbrev tT : Type := (Int → Int) × (Int → Int) × (Int → Int) × (Int → Int)
abbrev tB5 (E : jE) (ca ba na ua ea : Nat) (c b n u e : Int → Int) : va_W := jFl [wA E ca 48 c, wA E ba 60 b, wA E na 16 n, wA E ua 36 u, wA E ea 64 e]
theorem sLn_x1 (x : Nat → Int → Int) (t : Int) : sLn (jS x 9 (jU (x 9) 1 (x 9 1 + 1))) t = sLn x t := rfl
theorem sGtc_2 {x : Nat → Int → Int} (h : x 2 0 = 2) : sGtc x = 4 := if_neg (by omega)
theorem sGtc_1 {x : Nat → Int → Int} (h : x 2 0 = 1) : sGtc x = sLn x (sSee x (x 4 0)) := if_pos h
/-- one drop: nothing -/
theorem K_ds0 {x : Nat → Int → Int} {c b n u e : Int → Int} {i : Nat} (hg : sGr (sDs (sT3 x) i).1) (h : KRel 1 (sDs (sT3 x) i).1 c b n u e) (hi : i < 4) (hq : ¬ (0 < c (4 * (2 + 2 * (i : Int))) ∧ c (4 * (2 + 2 * (i : Int)) + 3) = i)) : KRel 1 (sDs (sT3 x) (i + 1)).1 c b n u e ∧ x 2 11 + (sDs (sT3 x) i).2 = x 2 11 + (sDs (sT3 x) (i + 1)).2 := by
  obtain ⟨e1, e2⟩ := K_dr0 hg h (l := (i : Int)) (by omega) hq
  have a1 : (sDs (sT3 x) (i + 1)).1 = sDrX (sDs (sT3 x) i).1 i := rfl
  have a2 : (sDs (sT3 x) (i + 1)).2 = (sDs (sT3 x) i).2 + sDrN (sDs (sT3 x) i).1 i := rfl
  rw [a1, a2, e1, e2]
  exact ⟨h, by omega⟩
/-- one drop: the box is full -/
theorem K_ds1 {x : Nat → Int → Int} {c b n u e : Int → Int} {i : Nat} (h : KRel 1 (sDs (sT3 x) i).1 c b n u e) (hi : i < 4) (h1 : 0 < c (4 * (2 + 2 * (i : Int)))) (h2 : c (4 * (2 + 2 * (i : Int)) + 3) = i) (hf : n 7 ≤ n i) : KRel 1 (sDs (sT3 x) (i + 1)).1 (jU c (4 * (2 + 2 * (i : Int)) + 3) 4) b (jU n 12 (n 12 + 1)) u e ∧ x 2 11 + (sDs (sT3 x) i).2 = x 2 11 + (sDs (sT3 x) (i + 1)).2 := by
  have k3 := K_dr3 h (l := (i : Int)) (by omega) h1 h2
  have kn := (h.2.1.1 i (by omega) (by omega)).1
  have k7 := h.2.2.1.1.2.2.1
  have a1 : (sDs (sT3 x) (i + 1)).1 = sDrX (sDs (sT3 x) i).1 i := rfl
  have a2 : (sDs (sT3 x) (i + 1)).2 = (sDs (sT3 x) i).2 + sDrN (sDs (sT3 x) i).1 i := rfl
  generalize (sDs (sT3 x) i).1 = y at *
  have e1 : sDrX y i = jS (jS y 3 (jU (y 3) (2 + 2 * (i : Int)) 4)) 9 (jU (y 9) 3 (y 9 3 + 1)) := by
    unfold sDrX
    rw [if_pos k3.1, if_pos (by omega)]
  have e2 : sDrN y i = 0 := by
    unfold sDrN
    rw [if_pos k3.1, if_pos (by omega)]
  rw [a1, a2, e1, e2]
  exact ⟨K_drF h (by omega), by omega⟩
/-- one drop: an apple falls; z is its new bruise -/
theorem K_ds2 {x : Nat → Int → Int} {c b n u e : Int → Int} {i : Nat} {z : Int} (hx : sOK (sDs (sT3 x) i).1) (h : KRel 1 (sDs (sT3 x) i).1 c b n u e) (hi : i < 4) (h1 : 0 < c (4 * (2 + 2 * (i : Int)))) (h2 : c (4 * (2 + 2 * (i : Int)) + 3) = i) (hf : n i < n 7) (hz : (z = 1 ∧ n 8 / 2 ^ (i : Int).toNat % 2 = 0 ∧ c (4 * (2 + 2 * (i : Int)) + 1) % 10 < 9) ∨ (z = 0 ∧ ¬ (n 8 / 2 ^ (i : Int).toNat % 2 = 0 ∧ c (4 * (2 + 2 * (i : Int)) + 1) % 10 < 9))) : KRel 1 (sDs (sT3 x) (i + 1)).1 (jU c (4 * (2 + 2 * (i : Int))) 0) (jU b (15 * (i : Int) + jU n 14 (n 14 + z) i) (c (4 * (2 + 2 * (i : Int)) + 1) + z)) (jU (jU n 14 (n 14 + z)) i (jU n 14 (n 14 + z) i + 1)) u e ∧ x 2 11 + (sDs (sT3 x) i).2 + 1 = x 2 11 + (sDs (sT3 x) (i + 1)).2 := by
  obtain ⟨k1, k2, k4⟩ := K_dr3 h (l := (i : Int)) (by omega) h1 h2
  have kn := (h.2.1.1 i (by omega) (by omega)).1
  have k7 := h.2.2.1.1.2.2.1
  have k8 := kWat_at h.2.2.1.2.1 (l := (i : Int)) (by omega)
  have a1 : (sDs (sT3 x) (i + 1)).1 = sDrX (sDs (sT3 x) i).1 i := rfl
  have a2 : (sDs (sT3 x) (i + 1)).2 = (sDs (sT3 x) i).2 + sDrN (sDs (sT3 x) i).1 i := rfl
  generalize (sDs (sT3 x) i).1 = y at *
  have r4 : ∀ i, 0 ≤ y 4 i ∧ y 4 i < 404000 := hx 4
  have r4i := r4 (2 * (2 + 2 * (i : Int)))
  have pt := (pk_parts r4i.1).2.2
  rw [← k4] at pt
  have e2 : sDrN y i = 1 := by
    unfold sDrN
    rw [if_pos k1, if_neg (by omega)]
  rw [a1, a2, e2]
  refine ⟨?_, by omega⟩
  rcases hz with ⟨rfl, w1, w2⟩ | ⟨rfl, w1⟩
  · have e1 : sDrX y i = sClear (sPut (jS y 9 (jU (y 9) 5 (y 9 5 + 1))) i (sHurtT (y 4 (2 * (2 + 2 * (i : Int)))))) (2 + 2 * i) := by
      unfold sDrX
      rw [if_pos k1, if_neg (by omega), if_pos ⟨by omega, by omega⟩]
    rw [e1]
    exact K_drD (sOK_9 hx (by omega)) (K_cnt (i := 5) (z := 1) h (by omega)) (by omega) (show y 5 i < y 7 2 by omega) (by rw [k4, pk_hurt r4i.1 (by omega)])
  · have e1 : sDrX y i = sClear (sPut y i (y 4 (2 * (2 + 2 * (i : Int))))) (2 + 2 * i) := by
      unfold sDrX
      rw [if_pos k1, if_neg (by omega), if_neg (fun q => w1 ⟨by omega, by omega⟩)]
    rw [e1, jU_id]
    exact K_drD hx h (by omega) (by omega) (by omega)
theorem kL_tick_L_look : jKs mL_tick 19 yL_look wsL_look rmL_look 2 := ⟨gL_tick_L_look, ⟨_, _, _, _, rfl, by decide⟩, by decide +kernel, rfl, rfl, by decide⟩
theorem kL_tick_L_lane : jKs mL_tick 23 yL_lane wsL_lane rmL_lane 3 := ⟨gL_tick_L_lane, ⟨_, _, _, _, rfl, by decide⟩, by decide +kernel, rfl, rfl, by decide⟩
set_option maxRecDepth 100000 in
set_option maxHeartbeats 4000000 in
theorem c_L_tick (E : jE) (ca ba na ua ea : Nat) (c b n u e : Int → Int) (x : Nat → Int → Int) (N : Int) (hi : sInv x N) (hN : N ≤ 60) (hr : KRel 1 x c b n u e) : jMX (T := tT) jX0 E yL_tick wsL_tick rmL_tick [.ref ca, .ref ba, .ref na, .ref ua, .ref ea] (tB5 E ca ba na ua ea c b n u e) (fun q => KRel 1 (sTick x) q.1 q.2.1 q.2.2.1 u q.2.2.2) (fun _ => sTickN x) (fun q => tB5 E ca ba na ua ea q.1 q.2.1 q.2.2.1 u q.2.2.2) := by
  refine jMX_of (cc := cL_tick) (maxL := 9) (ret := (some .int)) [(0, .ref ca), (1, .ref ba), (2, .ref na), (3, .ref ua), (4, .ref ea)] (by decide) rfl rfl (Nat.le_of_ble_eq_true rfl) (fun C hT => ?_)
  show jG mL_tick E C (jQx (T := tT) E C (fun q => KRel 1 (sTick x) q.1 q.2.1 q.2.2.1 u q.2.2.2) (fun _ => sTickN x) (fun q => tB5 E ca ba na ua ea q.1 q.2.1 q.2.2.1 u q.2.2.2)) 0 0 0 [(0, .ref ca), (1, .ref ba), (2, .ref na), (3, .ref ua), (4, .ref ea)] [] (tB5 E ca ba na ua ea c b n u e)
  have hx : sOK x := hi.1
  have x2 : ∀ i, 0 ≤ x 2 i ∧ x 2 i ≤ 2 := hx 2
  have x3 : ∀ i, -1 ≤ x 3 i ∧ x 3 i ≤ 4 := hx 3
  have x4 : ∀ i, 0 ≤ x 4 i ∧ x 4 i < 404000 := hx 4
  have x20 := x2 0
  have x40 := x4 0
  have x211 := x2 11
  have hx1 : sOK (jS x 9 (jU (x 9) 1 (x 9 1 + 1))) := sOK_9 hx (by omega)
  obtain ⟨c0, c1, -⟩ := K_cup0 hr
  have hr1 : KRel 1 (jS x 9 (jU (x 9) 1 (x 9 1 + 1))) c b (jU n 10 (n 10 + 1)) u e := K_cnt (i := 1) (z := 1) hr (by omega)
  have hlo : kLow x (jU n 10 (n 10 + 1)) u := kLow_kept hr1.2.2.1 rfl rfl rfl rfl rfl (fun _ _ _ => rfl)
  have r5 : ∀ i, 0 ≤ x 5 i ∧ x 5 i ≤ 512 ∧ (i < 4 → x 5 i ≤ 20) := hx 5
  have r54 := r5 4
  have tot := (sTot_11 hx (by have := hi.2.2; omega))
  have tot6 : x 5 4 + x 2 11 ≤ 60 := by
    have h5 : ∀ i, 0 ≤ x 5 i ∧ x 5 i ≤ 512 ∧ (i < 4 → x 5 i ≤ 20) := hx 5
    have a := (jSum_part (g := x 5) 5 (fun i _ => (h5 i).1)).2 4 (by omega)
    have b := (jSum_part (g := x 2) 12 (fun i _ => (x2 i).1)).2 11 (by omega)
    have a' : x 5 4 ≤ jSum (x 5) 5 := a
    have b' : x 2 11 ≤ jSum (x 2) 12 := b
    have t := hi.2.2
    unfold sTot at t
    omega
  have t3 : sT3 x = sMove (sFo (sGrade (jS x 9 (jU (x 9) 1 (x 9 1 + 1)))) (x 2 11).toNat) := by
    unfold sT3
    rw [sGrade_2]
    rfl
  refine j_aload_n 2 1 dL_tick_0 rfl rfl ?_
  refine j_bipush 3 dL_tick_1 rfl (by decide) ?_
  refine j_dup2 4 dL_tick_3 rfl rfl rfl ?_
  refine j_ialdB 2 0 5 dL_tick_4 rfl rfl rfl (by decide) (by omega) ?_
  refine j_iconst 6 dL_tick_5 rfl ?_
  refine j_iadd 7 dL_tick_6 rfl ?_
  refine j_iastB 2 0 8 [_] [_, _, _, _, _] dL_tick_7 rfl rfl rfl (by decide) (by omega) rfl rfl ?_
  have key59 : ∀ (c2 n2 : Int → Int), KRel 0 (sGrade (jS x 9 (jU (x 9) 1 (x 9 1 + 1)))) c2 b n2 u e → jG mL_tick E C (jQx (T := tT) E C (fun q => KRel 1 (sTick x) q.1 q.2.1 q.2.2.1 u q.2.2.2) (fun _ => sTickN x) (fun q => tB5 E ca ba na ua ea q.1 q.2.1 q.2.2.1 u q.2.2.2)) 0 0 59 [(0, .ref ca), (1, .ref ba), (2, .ref na), (3, .ref ua), (4, .ref ea)] [] (tB5 E ca ba na ua ea c2 b n2 u e) := by
    intro c2 n2 hr2
    have e22 : sGrade (jS x 9 (jU (x 9) 1 (x 9 1 + 1))) 2 = x 2 := sGrade_2 _
    have e24 : sGrade (jS x 9 (jU (x 9) 1 (x 9 1 + 1))) 4 = x 4 := sGrade_ne _ (by omega) (by omega)
    have e25 : sGrade (jS x 9 (jU (x 9) 1 (x 9 1 + 1))) 5 = x 5 := sGrade_ne _ (by omega) (by omega)
    obtain ⟨p1, p2, p3, -⟩ := hr2.1 11 (by omega) (by omega)
    rw [e22] at p1 p2 p3
    rw [e24] at p2 p3
    have q44 : c2 44 = x 2 11 := p1
    have q45 : ∀ i : Nat, (i : Int) < x 2 11 → c2 (45 + i) = pk (sGrade (jS x 9 (jU (x 9) 1 (x 9 1 + 1))) 4 (2 * 11 + i)) := by
      intro i hi2
      rw [e24]
      rcases (show i = 0 ∨ i = 1 by omega) with rfl | rfl
      · exact p2 (by omega)
      · exact p3 (by omega)
    refine j_aload_n 0 60 dL_tick_59 rfl rfl ?_
    refine j_bipush 62 dL_tick_60 rfl (by decide) ?_
    refine j_ialdB 0 0 63 dL_tick_62 rfl rfl rfl (by decide) (by omega) ?_
    rw [q44]
    refine j_istore 65 [_, _, _, _, _, _] dL_tick_63 rfl (by decide) rfl ?_
    refine j_iconst 66 dL_tick_65 rfl ?_
    refine j_istore 68 [_, _, _, _, _, _, _] dL_tick_66 rfl (by decide) rfl ?_
    have key68 : ∀ (fu i : Nat) (n3 e3 : Int → Int), (x 2 11).toNat < i + fu → (i : Int) ≤ x 2 11 → KRel 0 (sFo (sGrade (jS x 9 (jU (x 9) 1 (x 9 1 + 1)))) i) c2 b n3 u e3 → jG mL_tick E C (jQx (T := tT) E C (fun q => KRel 1 (sTick x) q.1 q.2.1 q.2.2.1 u q.2.2.2) (fun _ => sTickN x) (fun q => tB5 E ca ba na ua ea q.1 q.2.1 q.2.2.1 u q.2.2.2)) 0 0 68 [(0, .ref ca), (1, .ref ba), (2, .ref na), (3, .ref ua), (4, .ref ea), (5, .int (jI (x 2 11))), (6, .int (jI (i : Int)))] [] (tB5 E ca ba na ua ea c2 b n3 u e3) := by
      intro fu
      induction fu with
      | zero => intro i n3 e3 h1 h2 hr3; exact absurd h1 (by omega)
      | succ fu ih =>
        intro i n3 e3 h1 h2 hr3
        refine j_iload 6 70 dL_tick_68 rfl rfl ?_
        refine j_aload_n 0 71 dL_tick_70 rfl rfl ?_
        refine j_bipush 73 dL_tick_71 rfl (by decide) ?_
        refine j_ialdB 0 0 74 dL_tick_73 rfl rfl rfl (by decide) (by omega) ?_
        rw [q44]
        refine j_icmp_ge 106 77 dL_tick_74 rfl (by decide) (by omega) (by omega) (fun h_74 => ?_) (fun h_74 => ?_)
        · skip
          obtain rfl : i = (x 2 11).toNat := by omega
          refine j_bipush 108 dL_tick_106 rfl (by decide) ?_
          refine j_istore 110 [_, _, _, _, _, _, _] dL_tick_108 rfl (by decide) rfl ?_
          have key110 : ∀ (fu : Nat) (i : Int), i < fu → 3 ≤ i ∧ i ≤ 47 → jG mL_tick E C (jQx (T := tT) E C (fun q => KRel 1 (sTick x) q.1 q.2.1 q.2.2.1 u q.2.2.2) (fun _ => sTickN x) (fun q => tB5 E ca ba na ua ea q.1 q.2.1 q.2.2.1 u q.2.2.2)) 0 0 110 [(0, .ref ca), (1, .ref ba), (2, .ref na), (3, .ref ua), (4, .ref ea), (5, .int (jI (x 2 11))), (6, .int (jI i))] [] (tB5 E ca ba na ua ea (sh1 c2 4 i 47) b n3 u e3) := by
            intro fu
            induction fu with
            | zero => intro i h1 h2; exact absurd h1 (by omega)
            | succ fu ih =>
              intro i h1 h2
              refine j_iload 6 112 dL_tick_110 rfl rfl ?_
              refine j_iconst 113 dL_tick_112 rfl ?_
              refine j_icmp_le 132 116 dL_tick_113 rfl (by decide) (by omega) (by omega) (fun h_113 => ?_) (fun h_113 => ?_)
              · skip
                obtain rfl : i = 3 := by omega
                refine j_aload_n 0 133 dL_tick_132 rfl rfl ?_
                refine j_iconst 134 dL_tick_133 rfl ?_
                refine j_iconst 135 dL_tick_134 rfl ?_
                refine j_iastB 0 0 136 [_] [_, _, _, _, _] dL_tick_135 rfl rfl rfl (by decide) (by omega) rfl rfl ?_
                have hr4 := K_move hr3
                rw [← t3] at hr4
                refine j_iconst 137 dL_tick_136 rfl ?_
                refine j_istore 139 [_, _, _, _, _, _, _] dL_tick_137 rfl (by decide) rfl ?_
                have key139 : ∀ (fu i : Nat) (c4 b4 n4 : Int → Int), 4 < i + fu → i ≤ 4 → KRel 1 (sDs (sT3 x) i).1 c4 b4 n4 u e3 → jG mL_tick E C (jQx (T := tT) E C (fun q => KRel 1 (sTick x) q.1 q.2.1 q.2.2.1 u q.2.2.2) (fun _ => sTickN x) (fun q => tB5 E ca ba na ua ea q.1 q.2.1 q.2.2.1 u q.2.2.2)) 0 0 139 [(0, .ref ca), (1, .ref ba), (2, .ref na), (3, .ref ua), (4, .ref ea), (5, .int (jI (x 2 11 + (sDs (sT3 x) i).2))), (6, .int (jI (i : Int)))] [] (tB5 E ca ba na ua ea c4 b4 n4 u e3) := by
                  intro fu
                  induction fu with
                  | zero => intro i c4 b4 n4 h1 h2 hr5; exact absurd h1 (by omega)
                  | succ fu ih =>
                    intro i c4 b4 n4 h1 h2 hr5
                    refine j_iload 6 141 dL_tick_139 rfl rfl ?_
                    refine j_iconst 142 dL_tick_141 rfl ?_
                    refine j_icmp_ge 287 145 dL_tick_142 rfl (by decide) (by omega) (by omega) (fun h_142 => ?_) (fun h_142 => ?_)
                    · skip
                      obtain rfl : i = 4 := by omega
                      refine j_iload 5 289 dL_tick_287 rfl rfl ?_
                      refine j_xret (c4, b4, n4, e3) dL_tick_289 rfl (by rfl) ?_ rfl
                      exact hr5
                    · skip
                      have hy := sInv_ds hi (by omega) i (by omega)
                      have hyx := hy.1
                      have y2 : ∀ j, 0 ≤ (sDs (sT3 x) i).1 2 j ∧ (sDs (sT3 x) i).1 2 j ≤ 2 := hyx 2
                      have y3 : ∀ j, -1 ≤ (sDs (sT3 x) i).1 3 j ∧ (sDs (sT3 x) i).1 3 j ≤ 4 := hyx 3
                      have y4 : ∀ j, 0 ≤ (sDs (sT3 x) i).1 4 j ∧ (sDs (sT3 x) i).1 4 j < 404000 := hyx 4
                      have y5 : ∀ j, 0 ≤ (sDs (sT3 x) i).1 5 j ∧ (sDs (sT3 x) i).1 5 j ≤ 512 ∧ (j < 4 → (sDs (sT3 x) i).1 5 j ≤ 20) := hyx 5
                      have y2i := y2 (2 + 2 * (i : Int))
                      have y3i := y3 (2 + 2 * (i : Int))
                      have y4i := y4 (2 * (2 + 2 * (i : Int)))
                      have y5i := y5 i
                      obtain ⟨d1, d2, -, d4⟩ := hr5.1 (2 + 2 * (i : Int)) (by omega) (by omega)
                      obtain ⟨f1, f2, -⟩ := hr5.2.1.1 i (by omega) (by omega)
                      have s7 := kSet_rng hyx hr5.2.2.1.1
                      have w8 := hr5.2.2.1.2.1.1
                      refine j_iconst 146 dL_tick_145 rfl ?_
                      refine j_iconst 147 dL_tick_146 rfl ?_
                      refine j_iconst 148 dL_tick_147 rfl ?_
                      refine j_iload 6 150 dL_tick_148 rfl rfl ?_
                      refine j_imul 151 dL_tick_150 rfl ?_
                      refine j_iadd 152 dL_tick_151 rfl ?_
                      refine j_imul 153 dL_tick_152 rfl ?_
                      refine j_istore 155 [_, _, _, _, _, _, _, _] dL_tick_153 rfl (by decide) rfl ?_
                      refine j_aload_n 1 156 dL_tick_155 rfl rfl ?_
                      refine j_iload 0 158 dL_tick_156 rfl rfl ?_
                      refine j_ialdB 0 0 159 dL_tick_158 rfl rfl rfl (by decide) (by omega) ?_
                      refine j_if_le 281 162 dL_tick_159 rfl (by decide) (by omega) (fun h_159 => ?_) (fun h_159 => ?_)
                      · skip
                        have hnx := K_ds0 hy.2.1 hr5 (by omega) (fun q => by omega)
                        refine j_iinc 7 284 [_, _, _, _, _, _, _, _] dL_tick_281 rfl rfl (by decide) rfl ?_
                        refine j_goto 139 dL_tick_284 (by decide) ?_
                        refine j_perm [2, 3, 4, 5, 6, 7, 0] rfl ?_
                        rw [hnx.2]
                        exact ih (i + 1) _ _ _ (by omega) (by omega) hnx.1
                      · skip
                        have d4i := d4 (by omega) (by omega)
                        have d2i := d2 (by omega)
                        have pr := pk_rng (t := (sDs (sT3 x) i).1 4 (2 * (2 + 2 * (i : Int)))) (by omega)
                        refine j_aload_n 1 163 dL_tick_162 rfl rfl ?_
                        refine j_iload 0 165 dL_tick_163 rfl rfl ?_
                        refine j_iconst 166 dL_tick_165 rfl ?_
                        refine j_iadd 167 dL_tick_166 rfl ?_
                        refine j_ialdB 0 0 168 dL_tick_167 rfl rfl rfl (by decide) (by omega) ?_
                        refine j_iload 7 170 dL_tick_168 rfl rfl ?_
                        refine j_icmp_ne 281 173 dL_tick_170 rfl (by decide) (by omega) (by omega) (fun h_170 => ?_) (fun h_170 => ?_)
                        · skip
                          have hnx := K_ds0 hy.2.1 hr5 (by omega) (fun q => by omega)
                          refine j_iinc 7 284 [_, _, _, _, _, _, _, _] dL_tick_281 rfl rfl (by decide) rfl ?_
                          refine j_goto 139 dL_tick_284 (by decide) ?_
                          refine j_perm [2, 3, 4, 5, 6, 7, 0] rfl ?_
                          rw [hnx.2]
                          exact ih (i + 1) _ _ _ (by omega) (by omega) hnx.1
                        · skip
                          refine j_aload_n 3 174 dL_tick_173 rfl rfl ?_
                          refine j_iload 7 176 dL_tick_174 rfl rfl ?_
                          refine j_ialdB 2 0 177 dL_tick_176 rfl rfl rfl (by decide) (by omega) ?_
                          refine j_aload_n 3 178 dL_tick_177 rfl rfl ?_
                          refine j_bipush 180 dL_tick_178 rfl (by decide) ?_
                          refine j_ialdB 2 0 181 dL_tick_180 rfl rfl rfl (by decide) (by omega) ?_
                          refine j_icmp_lt 202 184 dL_tick_181 rfl (by decide) (by omega) (by omega) (fun h_181 => ?_) (fun h_181 => ?_)
                          · skip
                            refine j_aload_n 3 203 dL_tick_202 rfl rfl ?_
                            refine j_bipush 205 dL_tick_203 rfl (by decide) ?_
                            refine j_ialdB 2 0 206 dL_tick_205 rfl rfl rfl (by decide) (by omega) ?_
                            refine j_iload 7 208 dL_tick_206 rfl rfl ?_
                            refine j_ishr_and 209 210 211 dL_tick_208 dL_tick_209 dL_tick_210 rfl rfl rfl (by omega) (by omega) ?_
                            have wb : 0 ≤ n4 8 / 2 ^ (i : Int).toNat % 2 ∧ n4 8 / 2 ^ (i : Int).toNat % 2 < 2 := by omega
                            refine j_if_ne 232 214 dL_tick_211 rfl (by decide) (by omega) (fun h_211 => ?_) (fun h_211 => ?_)
                            · skip
                              have hnx := K_ds2 (z := 0) hyx hr5 (by omega) (by omega) (by omega) (by omega) (Or.inr ⟨rfl, fun q => by omega⟩)
                              have z7 : jU n4 14 (n4 14 + 0) i = n4 i := jU_ne (by omega)
                              refine j_iconst 233 dL_tick_232 rfl ?_
                              refine j_istore 235 [_, _, _, _, _, _, _, _, _] dL_tick_233 rfl (by decide) rfl ?_
                              refine j_aload_n 4 236 dL_tick_235 rfl rfl ?_
                              refine j_bipush 238 dL_tick_236 rfl (by decide) ?_
                              refine j_dup2 239 dL_tick_238 rfl rfl rfl ?_
                              refine j_ialdB 2 0 240 dL_tick_239 rfl rfl rfl (by decide) (by omega) ?_
                              refine j_iload 0 242 dL_tick_240 rfl rfl ?_
                              refine j_iadd 243 dL_tick_242 rfl ?_
                              refine j_iastB 2 0 244 [_] [_, _, _, _, _] dL_tick_243 rfl rfl rfl (by decide) (by omega) rfl rfl ?_
                              refine j_aload_n 3 245 dL_tick_244 rfl rfl ?_
                              refine j_bipush 247 dL_tick_245 rfl (by decide) ?_
                              refine j_iload 8 249 dL_tick_247 rfl rfl ?_
                              refine j_imul 250 dL_tick_249 rfl ?_
                              refine j_aload_n 4 251 dL_tick_250 rfl rfl ?_
                              refine j_iload 8 253 dL_tick_251 rfl rfl ?_
                              refine j_ialdB 2 0 254 dL_tick_253 rfl rfl rfl (by decide) (by omega) ?_
                              refine j_iadd 255 dL_tick_254 rfl ?_
                              refine j_aload_n 2 256 dL_tick_255 rfl rfl ?_
                              refine j_iload 1 258 dL_tick_256 rfl rfl ?_
                              refine j_iconst 259 dL_tick_258 rfl ?_
                              refine j_iadd 260 dL_tick_259 rfl ?_
                              refine j_ialdB 0 0 261 dL_tick_260 rfl rfl rfl (by decide) (by omega) ?_
                              refine j_iload 0 263 dL_tick_261 rfl rfl ?_
                              refine j_iadd 264 dL_tick_263 rfl ?_
                              refine j_iastB 1 0 265 [_] [_, _, _, _, _] dL_tick_264 rfl rfl rfl (by decide) (by omega) rfl rfl ?_
                              refine j_aload_n 4 266 dL_tick_265 rfl rfl ?_
                              refine j_iload 8 268 dL_tick_266 rfl rfl ?_
                              refine j_dup2 269 dL_tick_268 rfl rfl rfl ?_
                              refine j_ialdB 2 0 270 dL_tick_269 rfl rfl rfl (by decide) (by omega) ?_
                              refine j_iconst 271 dL_tick_270 rfl ?_
                              refine j_iadd 272 dL_tick_271 rfl ?_
                              refine j_iastB 2 0 273 [_] [_, _, _, _, _] dL_tick_272 rfl rfl rfl (by decide) (by omega) rfl rfl ?_
                              refine j_iinc 7 276 [_, _, _, _, _, _, _, _, _] dL_tick_273 rfl rfl (by decide) rfl ?_
                              refine j_aload_n 3 277 dL_tick_276 rfl rfl ?_
                              refine j_iload 2 279 dL_tick_277 rfl rfl ?_
                              refine j_iconst 280 dL_tick_279 rfl ?_
                              refine j_iastB 0 0 281 [_] [_, _, _, _, _] dL_tick_280 rfl rfl rfl (by decide) (by omega) rfl rfl ?_
                              refine j_iinc 8 284 [_, _, _, _, _, _, _, _, _] dL_tick_281 rfl rfl (by decide) rfl ?_
                              refine j_goto 139 dL_tick_284 (by decide) ?_
                              refine j_perm [4, 5, 6, 7, 8, 1, 0] rfl ?_
                              rw [hnx.2]
                              exact ih (i + 1) _ _ _ (by omega) (by omega) hnx.1
                            · skip
                              refine j_aload_n 1 215 dL_tick_214 rfl rfl ?_
                              refine j_iload 0 217 dL_tick_215 rfl rfl ?_
                              refine j_iconst 218 dL_tick_217 rfl ?_
                              refine j_iadd 219 dL_tick_218 rfl ?_
                              refine j_ialdB 0 0 220 dL_tick_219 rfl rfl rfl (by decide) (by omega) ?_
                              refine j_bipush 222 dL_tick_220 rfl (by decide) ?_
                              refine j_irem 223 dL_tick_222 rfl (by omega) (by decide) ?_
                              refine j_bipush 225 dL_tick_223 rfl (by decide) ?_
                              refine j_icmp_ge 232 228 dL_tick_225 rfl (by decide) (by omega) (by omega) (fun h_225 => ?_) (fun h_225 => ?_)
                              · skip
                                have hnx := K_ds2 (z := 0) hyx hr5 (by omega) (by omega) (by omega) (by omega) (Or.inr ⟨rfl, fun q => by omega⟩)
                                have z7 : jU n4 14 (n4 14 + 0) i = n4 i := jU_ne (by omega)
                                refine j_iconst 233 dL_tick_232 rfl ?_
                                refine j_istore 235 [_, _, _, _, _, _, _, _, _] dL_tick_233 rfl (by decide) rfl ?_
                                refine j_aload_n 4 236 dL_tick_235 rfl rfl ?_
                                refine j_bipush 238 dL_tick_236 rfl (by decide) ?_
                                refine j_dup2 239 dL_tick_238 rfl rfl rfl ?_
                                refine j_ialdB 2 0 240 dL_tick_239 rfl rfl rfl (by decide) (by omega) ?_
                                refine j_iload 0 242 dL_tick_240 rfl rfl ?_
                                refine j_iadd 243 dL_tick_242 rfl ?_
                                refine j_iastB 2 0 244 [_] [_, _, _, _, _] dL_tick_243 rfl rfl rfl (by decide) (by omega) rfl rfl ?_
                                refine j_aload_n 3 245 dL_tick_244 rfl rfl ?_
                                refine j_bipush 247 dL_tick_245 rfl (by decide) ?_
                                refine j_iload 8 249 dL_tick_247 rfl rfl ?_
                                refine j_imul 250 dL_tick_249 rfl ?_
                                refine j_aload_n 4 251 dL_tick_250 rfl rfl ?_
                                refine j_iload 8 253 dL_tick_251 rfl rfl ?_
                                refine j_ialdB 2 0 254 dL_tick_253 rfl rfl rfl (by decide) (by omega) ?_
                                refine j_iadd 255 dL_tick_254 rfl ?_
                                refine j_aload_n 2 256 dL_tick_255 rfl rfl ?_
                                refine j_iload 1 258 dL_tick_256 rfl rfl ?_
                                refine j_iconst 259 dL_tick_258 rfl ?_
                                refine j_iadd 260 dL_tick_259 rfl ?_
                                refine j_ialdB 0 0 261 dL_tick_260 rfl rfl rfl (by decide) (by omega) ?_
                                refine j_iload 0 263 dL_tick_261 rfl rfl ?_
                                refine j_iadd 264 dL_tick_263 rfl ?_
                                refine j_iastB 1 0 265 [_] [_, _, _, _, _] dL_tick_264 rfl rfl rfl (by decide) (by omega) rfl rfl ?_
                                refine j_aload_n 4 266 dL_tick_265 rfl rfl ?_
                                refine j_iload 8 268 dL_tick_266 rfl rfl ?_
                                refine j_dup2 269 dL_tick_268 rfl rfl rfl ?_
                                refine j_ialdB 2 0 270 dL_tick_269 rfl rfl rfl (by decide) (by omega) ?_
                                refine j_iconst 271 dL_tick_270 rfl ?_
                                refine j_iadd 272 dL_tick_271 rfl ?_
                                refine j_iastB 2 0 273 [_] [_, _, _, _, _] dL_tick_272 rfl rfl rfl (by decide) (by omega) rfl rfl ?_
                                refine j_iinc 7 276 [_, _, _, _, _, _, _, _, _] dL_tick_273 rfl rfl (by decide) rfl ?_
                                refine j_aload_n 3 277 dL_tick_276 rfl rfl ?_
                                refine j_iload 2 279 dL_tick_277 rfl rfl ?_
                                refine j_iconst 280 dL_tick_279 rfl ?_
                                refine j_iastB 0 0 281 [_] [_, _, _, _, _] dL_tick_280 rfl rfl rfl (by decide) (by omega) rfl rfl ?_
                                refine j_iinc 8 284 [_, _, _, _, _, _, _, _, _] dL_tick_281 rfl rfl (by decide) rfl ?_
                                refine j_goto 139 dL_tick_284 (by decide) ?_
                                refine j_perm [4, 5, 6, 7, 8, 1, 0] rfl ?_
                                rw [hnx.2]
                                exact ih (i + 1) _ _ _ (by omega) (by omega) hnx.1
                              · skip
                                have hnx := K_ds2 (z := 1) hyx hr5 (by omega) (by omega) (by omega) (by omega) (Or.inl ⟨rfl, by omega, by omega⟩)
                                have z7 : jU n4 14 (n4 14 + 1) i = n4 i := jU_ne (by omega)
                                refine j_iconst 229 dL_tick_228 rfl ?_
                                refine j_goto 233 dL_tick_229 (by decide) ?_
                                refine j_istore 235 [_, _, _, _, _, _, _, _, _] dL_tick_233 rfl (by decide) rfl ?_
                                refine j_aload_n 4 236 dL_tick_235 rfl rfl ?_
                                refine j_bipush 238 dL_tick_236 rfl (by decide) ?_
                                refine j_dup2 239 dL_tick_238 rfl rfl rfl ?_
                                refine j_ialdB 2 0 240 dL_tick_239 rfl rfl rfl (by decide) (by omega) ?_
                                refine j_iload 0 242 dL_tick_240 rfl rfl ?_
                                refine j_iadd 243 dL_tick_242 rfl ?_
                                refine j_iastB 2 0 244 [_] [_, _, _, _, _] dL_tick_243 rfl rfl rfl (by decide) (by omega) rfl rfl ?_
                                refine j_aload_n 3 245 dL_tick_244 rfl rfl ?_
                                refine j_bipush 247 dL_tick_245 rfl (by decide) ?_
                                refine j_iload 8 249 dL_tick_247 rfl rfl ?_
                                refine j_imul 250 dL_tick_249 rfl ?_
                                refine j_aload_n 4 251 dL_tick_250 rfl rfl ?_
                                refine j_iload 8 253 dL_tick_251 rfl rfl ?_
                                refine j_ialdB 2 0 254 dL_tick_253 rfl rfl rfl (by decide) (by omega) ?_
                                refine j_iadd 255 dL_tick_254 rfl ?_
                                refine j_aload_n 2 256 dL_tick_255 rfl rfl ?_
                                refine j_iload 1 258 dL_tick_256 rfl rfl ?_
                                refine j_iconst 259 dL_tick_258 rfl ?_
                                refine j_iadd 260 dL_tick_259 rfl ?_
                                refine j_ialdB 0 0 261 dL_tick_260 rfl rfl rfl (by decide) (by omega) ?_
                                refine j_iload 0 263 dL_tick_261 rfl rfl ?_
                                refine j_iadd 264 dL_tick_263 rfl ?_
                                refine j_iastB 1 0 265 [_] [_, _, _, _, _] dL_tick_264 rfl rfl rfl (by decide) (by omega) rfl rfl ?_
                                refine j_aload_n 4 266 dL_tick_265 rfl rfl ?_
                                refine j_iload 8 268 dL_tick_266 rfl rfl ?_
                                refine j_dup2 269 dL_tick_268 rfl rfl rfl ?_
                                refine j_ialdB 2 0 270 dL_tick_269 rfl rfl rfl (by decide) (by omega) ?_
                                refine j_iconst 271 dL_tick_270 rfl ?_
                                refine j_iadd 272 dL_tick_271 rfl ?_
                                refine j_iastB 2 0 273 [_] [_, _, _, _, _] dL_tick_272 rfl rfl rfl (by decide) (by omega) rfl rfl ?_
                                refine j_iinc 7 276 [_, _, _, _, _, _, _, _, _] dL_tick_273 rfl rfl (by decide) rfl ?_
                                refine j_aload_n 3 277 dL_tick_276 rfl rfl ?_
                                refine j_iload 2 279 dL_tick_277 rfl rfl ?_
                                refine j_iconst 280 dL_tick_279 rfl ?_
                                refine j_iastB 0 0 281 [_] [_, _, _, _, _] dL_tick_280 rfl rfl rfl (by decide) (by omega) rfl rfl ?_
                                refine j_iinc 8 284 [_, _, _, _, _, _, _, _, _] dL_tick_281 rfl rfl (by decide) rfl ?_
                                refine j_goto 139 dL_tick_284 (by decide) ?_
                                refine j_perm [4, 5, 6, 7, 8, 1, 0] rfl ?_
                                rw [hnx.2]
                                exact ih (i + 1) _ _ _ (by omega) (by omega) hnx.1
                          · skip
                            have hnx := K_ds1 hr5 (by omega) (by omega) (by omega) (by omega)
                            refine j_aload_n 1 185 dL_tick_184 rfl rfl ?_
                            refine j_iload 0 187 dL_tick_185 rfl rfl ?_
                            refine j_iconst 188 dL_tick_187 rfl ?_
                            refine j_iadd 189 dL_tick_188 rfl ?_
                            refine j_iconst 190 dL_tick_189 rfl ?_
                            refine j_iastB 0 0 191 [_] [_, _, _, _, _] dL_tick_190 rfl rfl rfl (by decide) (by omega) rfl rfl ?_
                            refine j_aload_n 3 192 dL_tick_191 rfl rfl ?_
                            refine j_bipush 194 dL_tick_192 rfl (by decide) ?_
                            refine j_dup2 195 dL_tick_194 rfl rfl rfl ?_
                            refine j_ialdB 2 0 196 dL_tick_195 rfl rfl rfl (by decide) (by omega) ?_
                            refine j_iconst 197 dL_tick_196 rfl ?_
                            refine j_iadd 198 dL_tick_197 rfl ?_
                            refine j_iastB 2 0 199 [_] [_, _, _, _, _] dL_tick_198 rfl rfl rfl (by decide) (by omega) rfl rfl ?_
                            refine j_goto 281 dL_tick_199 (by decide) ?_
                            refine j_iinc 7 284 [_, _, _, _, _, _, _, _] dL_tick_281 rfl rfl (by decide) rfl ?_
                            refine j_goto 139 dL_tick_284 (by decide) ?_
                            refine j_perm [2, 3, 4, 5, 6, 7, 0] rfl ?_
                            rw [hnx.2]
                            exact ih (i + 1) _ _ _ (by omega) (by omega) hnx.1
                refine j_perm [1, 2, 3, 4, 5, 6, 0] rfl ?_
                refine j_eqL (L' := [(0, .ref ca), (1, .ref ba), (2, .ref na), (3, .ref ua), (4, .ref ea), (5, .int (jI (x 2 11 + (sDs (sT3 x) 0).2))), (6, .int (jI ((0 : Nat) : Int)))]) (by rw [show x 2 11 + (sDs (sT3 x) 0).2 = x 2 11 from Int.add_zero _]; try rfl) ?_
                exact key139 5 0 _ _ _ (by omega) (by omega) hr4
              · skip
                refine j_aload_n 0 117 dL_tick_116 rfl rfl ?_
                refine j_iload 6 119 dL_tick_117 rfl rfl ?_
                refine j_aload_n 0 120 dL_tick_119 rfl rfl ?_
                refine j_iload 6 122 dL_tick_120 rfl rfl ?_
                refine j_iconst 123 dL_tick_122 rfl ?_
                refine j_isub 124 dL_tick_123 rfl ?_
                refine j_ialdB 0 0 125 dL_tick_124 rfl rfl rfl (by decide) (by omega) ?_
                refine j_iastB 0 0 126 [_] [_, _, _, _, _] dL_tick_125 rfl rfl rfl (by decide) (by omega) rfl rfl ?_
                refine j_iinc 6 129 [_, _, _, _, _, _, _] dL_tick_126 rfl rfl (by decide) rfl ?_
                refine j_goto 110 dL_tick_129 (by decide) ?_
                refine j_perm [1, 2, 3, 4, 5, 6, 0] rfl ?_
                rw [sh1_step (by omega) (by omega)]
                exact ih (i - 1) (by omega) (by omega)
          refine j_perm [1, 2, 3, 4, 5, 6, 0] rfl ?_
          refine j_eqw (w' := tB5 E ca ba na ua ea (sh1 c2 4 47 47) b n3 u e3) (by rw [sh1_start]) ?_
          exact key110 48 47 (by omega) (by omega)
        · skip
          have n34 : n3 4 = x 5 4 + i := by
            have a := hr3.2.1.2.1
            rw [(sFo_54 (sGrade (jS x 9 (jU (x 9) 1 (x 9 1 + 1)))) i).1, e25] at a
            exact a
          have s54 : sFo (sGrade (jS x 9 (jU (x 9) 1 (x 9 1 + 1)))) i 5 4 = x 5 4 + i := by
            rw [(sFo_54 (sGrade (jS x 9 (jU (x 9) 1 (x 9 1 + 1)))) i).1, e25]
          have q45i := q45 i (by omega)
          refine j_aload 4 79 dL_tick_77 rfl rfl ?_
          refine j_aload_n 2 80 dL_tick_79 rfl rfl ?_
          refine j_iconst 81 dL_tick_80 rfl ?_
          refine j_ialdB 2 0 82 dL_tick_81 rfl rfl rfl (by decide) (by omega) ?_
          refine j_bipush 84 dL_tick_82 rfl (by decide) ?_
          refine j_irem 85 dL_tick_84 rfl (by omega) (by decide) ?_
          rw [show n3 4 % 64 = n3 4 by omega]
          refine j_aload_n 0 86 dL_tick_85 rfl rfl ?_
          refine j_bipush 88 dL_tick_86 rfl (by decide) ?_
          refine j_iload 6 90 dL_tick_88 rfl rfl ?_
          refine j_iadd 91 dL_tick_90 rfl ?_
          refine j_ialdB 0 0 92 dL_tick_91 rfl rfl rfl (by decide) (by omega) ?_
          rw [q45i]
          refine j_iastB 4 0 93 [_] [_, _, _, _, _] dL_tick_92 rfl rfl rfl (by decide) (by omega) rfl rfl ?_
          refine j_aload_n 2 94 dL_tick_93 rfl rfl ?_
          refine j_iconst 95 dL_tick_94 rfl ?_
          refine j_dup2 96 dL_tick_95 rfl rfl rfl ?_
          refine j_ialdB 2 0 97 dL_tick_96 rfl rfl rfl (by decide) (by omega) ?_
          refine j_iconst 98 dL_tick_97 rfl ?_
          refine j_iadd 99 dL_tick_98 rfl ?_
          refine j_iastB 2 0 100 [_] [_, _, _, _, _] dL_tick_99 rfl rfl rfl (by decide) (by omega) rfl rfl ?_
          refine j_iinc 6 103 [_, _, _, _, _, _, _] dL_tick_100 rfl rfl (by decide) rfl ?_
          refine j_goto 68 dL_tick_103 (by decide) ?_
          refine j_perm [1, 2, 3, 4, 5, 6, 0] rfl ?_
          refine ih (i + 1) _ _ (by omega) (by omega) ?_
          exact K_put4 (by omega) hr3
    refine j_perm [2, 3, 4, 5, 6, 1, 0] rfl ?_
    exact key68 ((x 2 11).toNat + 1) 0 _ _ (by omega) (by omega) hr2
  refine j_aload_n 0 9 dL_tick_8 rfl rfl ?_
  refine j_iconst 10 dL_tick_9 rfl ?_
  refine j_ialdB 0 0 11 dL_tick_10 rfl rfl rfl (by decide) (by omega) ?_
  refine j_if_le 59 14 dL_tick_11 rfl (by decide) (by omega) (fun h_11 => ?_) (fun h_11 => ?_)
  · skip
    have hr2 : KRel 0 (sGrade (jS x 9 (jU (x 9) 1 (x 9 1 + 1)))) c b (jU n 10 (n 10 + 1)) u e := by
      rw [show sGrade (jS x 9 (jU (x 9) 1 (x 9 1 + 1))) = (jS x 9 (jU (x 9) 1 (x 9 1 + 1))) from if_pos (show x 2 0 = 0 by omega)]
      exact K_lo0 hr1 (show x 2 0 = 0 by omega)
    exact key59 _ _ hr2
  · skip
    rcases (show c 0 = 2 ∨ c 0 = 1 by omega) with h2 | h2
    · skip
      refine j_aload_n 0 15 dL_tick_14 rfl rfl ?_
      refine j_iconst 16 dL_tick_15 rfl ?_
      refine j_aload_n 0 17 dL_tick_16 rfl rfl ?_
      refine j_iconst 18 dL_tick_17 rfl ?_
      refine j_ialdB 0 0 19 dL_tick_18 rfl rfl rfl (by decide) (by omega) ?_
      refine j_iconst 20 dL_tick_19 rfl ?_
      refine j_icmp_ne 27 23 dL_tick_20 rfl (by decide) (by omega) (by omega) (fun h => absurd h (by omega)) (fun h_20 => ?_)
      refine j_iconst 24 dL_tick_23 rfl ?_
      refine j_goto 39 dL_tick_24 (by decide) ?_
      refine j_iastB 0 0 40 [_] [_, _, _, _, _] dL_tick_39 rfl rfl rfl (by decide) (by omega) rfl rfl ?_
      have z0 : jU c 3 4 0 = c 0 := jU_ne (by omega)
      refine j_aload_n 2 41 dL_tick_40 rfl rfl ?_
      refine j_bipush 43 dL_tick_41 rfl (by decide) ?_
      refine j_dup2 44 dL_tick_43 rfl rfl rfl ?_
      refine j_ialdB 2 0 45 dL_tick_44 rfl rfl rfl (by decide) (by omega) ?_
      refine j_aload_n 0 46 dL_tick_45 rfl rfl ?_
      refine j_iconst 47 dL_tick_46 rfl ?_
      refine j_ialdB 0 0 48 dL_tick_47 rfl rfl rfl (by decide) (by omega) ?_
      refine j_iconst 49 dL_tick_48 rfl ?_
      refine j_icmp_ne 56 52 dL_tick_49 rfl (by decide) (by omega) (by omega) (fun h => absurd h (by omega)) (fun h_49 => ?_)
      refine j_iconst 53 dL_tick_52 rfl ?_
      refine j_goto 57 dL_tick_53 (by decide) ?_
      refine j_iadd 58 dL_tick_57 rfl ?_
      refine j_iastB 2 0 59 [_] [_, _, _, _, _] dL_tick_58 rfl rfl rfl (by decide) (by omega) rfl rfl ?_
      have hr2 := K_grade hx1 hr1 (show ¬ x 2 0 = 0 by omega)
      rw [show sGtc (jS x 9 (jU (x 9) 1 (x 9 1 + 1))) = 4 from sGtc_2 (show x 2 0 = 2 by omega), if_pos (show (jS x 9 (jU (x 9) 1 (x 9 1 + 1))) 2 0 = 2 from show x 2 0 = 2 by omega)] at hr2
      exact key59 _ _ hr2
    · skip
      have sr := sSee_rng (t := x 4 0) hx x40
      refine j_aload_n 0 15 dL_tick_14 rfl rfl ?_
      refine j_iconst 16 dL_tick_15 rfl ?_
      refine j_aload_n 0 17 dL_tick_16 rfl rfl ?_
      refine j_iconst 18 dL_tick_17 rfl ?_
      refine j_ialdB 0 0 19 dL_tick_18 rfl rfl rfl (by decide) (by omega) ?_
      refine j_iconst 20 dL_tick_19 rfl ?_
      refine j_icmp_ne 27 23 dL_tick_20 rfl (by decide) (by omega) (by omega) (fun h_20 => ?_) (fun h => absurd h (by omega))
      refine j_aload_n 2 28 dL_tick_27 rfl rfl ?_
      refine j_aload_n 3 29 dL_tick_28 rfl rfl ?_
      refine j_aload_n 2 30 dL_tick_29 rfl rfl ?_
      refine j_aload_n 0 31 dL_tick_30 rfl rfl ?_
      refine j_iconst 32 dL_tick_31 rfl ?_
      refine j_ialdB 0 0 33 dL_tick_32 rfl rfl rfl (by decide) (by omega) ?_
      refine j_callSiB (wcs := [_]) (cs := [_]) [2] 36 [_, _, _, _, _] (c_L_look E _ (jU n 10 (n 10 + 1)) x _ (x 4 0) (by exact hx) (by exact hlo.1) (by omega) (by exact c1 (by omega))) (jFl_1 _) (jFl_1 _) rfl kL_tick_L_look rfl rfl rfl rfl (Nat.le_of_ble_eq_true rfl) (by decide) dL_tick_33 rfl ?_
      refine j_callSiB (wcs := [_, _]) (cs := [_, _]) [2, 3] 39 [_, _, _, _, _] (c_L_lane E _ _ (jU n 10 (n 10 + 1)) u x _ (sSee x (x 4 0)) (by exact hx) (by exact hlo.2.2) (by omega) (by rfl)) rfl rfl rfl kL_tick_L_lane rfl rfl rfl rfl (Nat.le_of_ble_eq_true rfl) (by decide) dL_tick_36 rfl ?_
      refine j_iastB 0 0 40 [_] [_, _, _, _, _] dL_tick_39 rfl rfl rfl (by decide) (by omega) rfl rfl ?_
      have z0 : jU c 3 (sLn x (sSee x (x 4 0))) 0 = c 0 := jU_ne (by omega)
      refine j_aload_n 2 41 dL_tick_40 rfl rfl ?_
      refine j_bipush 43 dL_tick_41 rfl (by decide) ?_
      refine j_dup2 44 dL_tick_43 rfl rfl rfl ?_
      refine j_ialdB 2 0 45 dL_tick_44 rfl rfl rfl (by decide) (by omega) ?_
      refine j_aload_n 0 46 dL_tick_45 rfl rfl ?_
      refine j_iconst 47 dL_tick_46 rfl ?_
      refine j_ialdB 0 0 48 dL_tick_47 rfl rfl rfl (by decide) (by omega) ?_
      refine j_iconst 49 dL_tick_48 rfl ?_
      refine j_icmp_ne 56 52 dL_tick_49 rfl (by decide) (by omega) (by omega) (fun h_49 => ?_) (fun h => absurd h (by omega))
      refine j_iconst 57 dL_tick_56 rfl ?_
      refine j_iadd 58 dL_tick_57 rfl ?_
      refine j_iastB 2 0 59 [_] [_, _, _, _, _] dL_tick_58 rfl rfl rfl (by decide) (by omega) rfl rfl ?_
      have hr2 := K_grade hx1 hr1 (show ¬ x 2 0 = 0 by omega)
      rw [show sGtc (jS x 9 (jU (x 9) 1 (x 9 1 + 1))) = (sLn x (sSee x (x 4 0))) from sGtc_1 (show x 2 0 = 1 by omega), if_neg (show ¬ (jS x 9 (jU (x 9) 1 (x 9 1 + 1))) 2 0 = 2 from show ¬ x 2 0 = 2 by omega)] at hr2
      exact key59 _ _ hr2
