/-! rules, lanes, misses against the law's rows -/
/-- whether one of the first n bounds hides b -/
def hidP (x : Int → Int) (b : Int) : Nat → Int
  | 0 => 0
  | n + 1 => if ¬ hidP x b n = 0 ∨ tShort (x n) b = 0 then 1 else 0
theorem hidP_01 (x : Int → Int) (b : Int) (n : Nat) : hidP x b n = 0 ∨ hidP x b n = 1 := by
  cases n with
  | zero => exact Or.inl rfl
  | succ n => unfold hidP; split <;> omega
theorem hidP_hidF (x : Int → Int) (b : Int) : ∀ (m i : Nat), hidP x b (i + m) = if hidP x b i = 0 then hidF x b m i else 1 := by
  intro m
  induction m with
  | zero =>
    intro i
    have := hidP_01 x b i
    show hidP x b i = if hidP x b i = 0 then 0 else 1
    split <;> omega
  | succ m ih =>
    intro i
    have h := ih (i + 1)
    rw [show i + (m + 1) = i + 1 + m by omega, h]
    have h01 := hidP_01 x b i
    have e : hidP x b (i + 1) = if ¬ hidP x b i = 0 ∨ tShort (x i) b = 0 then 1 else 0 := rfl
    have e2 : hidF x b (m + 1) i = if tShort (x i) b = 0 then 1 else hidF x b m (i + 1) := rfl
    show (if hidP x b (i + 1) = 0 then hidF x b m ((i : Int) + 1) else 1) = if hidP x b i = 0 then hidF x b (m + 1) i else 1
    rw [e2]
    by_cases q : hidP x b i = 0
    · by_cases w : tShort (x i) b = 0
      · have e3 : hidP x b (i + 1) = 1 := by rw [e]; exact if_pos (Or.inr w)
        rw [e3, if_neg (show ¬ (1 : Int) = 0 by omega), if_pos q, if_pos w]
      · have e3 : hidP x b (i + 1) = 0 := by rw [e]; exact if_neg (fun z => by omega)
        rw [e3, if_pos q, if_neg w]
        exact if_pos rfl
    · have e3 : hidP x b (i + 1) = 1 := by rw [e]; exact if_pos (Or.inl q)
      rw [e3, if_neg (show ¬ (1 : Int) = 0 by omega), if_neg q]
theorem hidP_all (x : Int → Int) (b : Int) (n : Nat) : hidP x b n = hidF x b n 0 := by
  have h := hidP_hidF x b n 0
  rw [Nat.zero_add] at h
  exact h
theorem tShort_0 (b t : Int) : tShort b t = 0 ↔ (tW b ≤ tW t ∧ tR b ≤ tR t ∧ tB t ≤ tB b) := by
  unfold tShort
  constructor
  · intro h
    refine ⟨?_, ?_, ?_⟩
    · by_cases q : tW t < tW b
      · rw [if_pos q] at h; (repeat' split at h) <;> omega
      · omega
    · by_cases q : tR t < tR b
      · rw [if_pos q] at h; (repeat' split at h) <;> omega
      · omega
    · by_cases q : tB b < tB t
      · rw [if_pos q] at h; (repeat' split at h) <;> omega
      · omega
  · intro h
    rw [if_neg (by omega), if_neg (by omega), if_neg (by omega)]
    rfl
theorem mRuleOf_at {x : Nat → Int → Int} {i : Int} (h : 0 ≤ i ∧ i < x 9 0) : mRuleOf x i 0 = tW (x 0 i) ∧ mRuleOf x i 1 = tR (x 0 i) ∧ mRuleOf x i 2 = tB (x 0 i) ∧ mRuleOf x i 3 = x 1 i ∧ mRuleOf x i 4 = hidF (x 0) (x 0 i) i.toNat 0 :=
  ⟨(if_neg (by omega)).trans rfl, (if_neg (by omega)).trans rfl, (if_neg (by omega)).trans rfl, (if_neg (by omega)).trans rfl, (if_neg (by omega)).trans rfl⟩
theorem tIn_1 {a r b : Int} (h : (50 ≤ a ∧ a ≤ 300) ∧ (0 ≤ r ∧ r ≤ 100) ∧ (0 ≤ b ∧ b ≤ 9)) : tIn a r b = 1 := if_pos h
theorem kL_areTold_X7_count : jKv mL_areTold 37 yX7_count wsX7_count rmX7_count 1 := ⟨gL_areTold_X7_count, ⟨_, _, _, _, rfl, by decide⟩, by decide +kernel, rfl, rfl, by decide⟩
theorem kL_areTold_X7_ruleOf : jKv mL_areTold 51 yX7_ruleOf wsX7_ruleOf rmX7_ruleOf 2 := ⟨gL_areTold_X7_ruleOf, ⟨_, _, _, _, rfl, by decide⟩, by decide +kernel, rfl, rfl, by decide⟩
theorem kL_areTold_L_pack : jKs mL_areTold 9 yL_pack wsL_pack rmL_pack 3 := ⟨gL_areTold_L_pack, ⟨_, _, _, _, rfl, by decide⟩, by decide +kernel, rfl, rfl, by decide⟩
theorem kL_areTold_L_look : jKs mL_areTold 19 yL_look wsL_look rmL_look 2 := ⟨gL_areTold_L_look, ⟨_, _, _, _, rfl, by decide⟩, by decide +kernel, rfl, rfl, by decide⟩
theorem kL_areTold_X7_lane : jKv mL_areTold 58 yX7_lane wsX7_lane rmX7_lane 4 := ⟨gL_areTold_X7_lane, ⟨_, _, _, _, rfl, by decide⟩, by decide +kernel, rfl, rfl, by decide⟩
theorem kL_areTold_L_lane : jKs mL_areTold 23 yL_lane wsL_lane rmL_lane 3 := ⟨gL_areTold_L_lane, ⟨_, _, _, _, rfl, by decide⟩, by decide +kernel, rfl, rfl, by decide⟩
theorem kL_areTold_X7_misses : jKv mL_areTold 54 yX7_misses wsX7_misses rmX7_misses 4 := ⟨gL_areTold_X7_misses, ⟨_, _, _, _, rfl, by decide⟩, by decide +kernel, rfl, rfl, by decide⟩
theorem kL_areTold_L_why : jKs mL_areTold 15 yL_why wsL_why rmL_why 3 := ⟨gL_areTold_L_why, ⟨_, _, _, _, rfl, by decide⟩, by decide +kernel, rfl, rfl, by decide⟩
set_option maxRecDepth 100000 in
set_option maxHeartbeats 4000000 in
theorem c_L_areTold (E : jE) (ad qh : Nat → Nat → Nat) (S H : Nat → Nat → Int → Int) (P : Nat → Int → Int) (v : Int → Int) (na ua : Nat) (N : Int) (c b n u e : Int → Int) (z : Int) (hc0 : cOK S H P v) (hi : sInv (S 0) N) (hN : N ≤ 60) (hr : KRel 1 (S 0) c b n u e) (hz : 0 ≤ z ∧ z < 2147483648) : jMI E yL_areTold wsL_areTold rmL_areTold [.ref (ad 7 0), .ref na, .ref ua, .int (jI z)] (jFl [wEye E ad qh S H P v, wA E na 16 n, wA E ua 36 u]) (1) (jFl [wEye E ad qh S H P v, wA E na 16 n, wA E ua 36 u]) := by
  refine jMI_of (cc := cL_areTold) (maxL := 12) (ret := (some .boolean)) [(0, .ref (ad 7 0)), (1, .ref na), (2, .ref ua), (3, .int (jI z))] (by decide) rfl rfl (Nat.le_of_ble_eq_true rfl) (fun C => ?_)
  show jG mL_areTold E C (jQi E C (1) (jFl [wEye E ad qh S H P v, wA E na 16 n, wA E ua 36 u])) 0 0 0 [(0, .ref (ad 7 0)), (1, .ref na), (2, .ref ua), (3, .int (jI z))] [] (jFl [wEye E ad qh S H P v, wA E na 16 n, wA E ua 36 u])
  have hx : sOK (S 0) := hc0.1 0
  have r0 : ∀ i, 0 ≤ S 0 0 i ∧ S 0 0 i < 404000 := hx 0
  have r1 : ∀ i, 0 ≤ S 0 1 i ∧ S 0 1 i ≤ 3 := hx 1
  have r9 : 0 ≤ S 0 9 0 ∧ S 0 9 0 ≤ 8 := hx 9
  obtain ⟨hs, -, hu⟩ := hr.2.2.1
  obtain ⟨k1, k2, k3, k4, k5, k6⟩ := hr.2.2.2
  have tt : (50 ≤ 50 + z % 251 ∧ 50 + z % 251 ≤ 300) ∧ (0 ≤ z / 251 % 101 ∧ z / 251 % 101 ≤ 100) ∧ (0 ≤ z / 9 % 10 ∧ z / 9 % 10 ≤ 9) := by omega
  have ti := tIn_1 tt
  obtain ⟨t, et⟩ : ∃ t, t = tOf (50 + z % 251) (z / 251 % 101) (z / 9 % 10) := ⟨_, rfl⟩
  have tg := tOf_rng tt.1 tt.2.1 tt.2.2
  have tp := pk_of (a := 50 + z % 251) (r := z / 251 % 101) (b := z / 9 % 10) (by omega) tt.2.1 tt.2.2
  rw [← et] at tg tp
  have sg := sSee_rng (t := t) hx tg
  have pg := pk_rng (t := sSee (S 0) t) (by omega)
  have s9 := hu.1
  have lt : ∀ w, w = 0 ∨ w = 1 → mLane (S 0) (50 + z % 251) (z / 251 % 101) (z / 9 % 10) w = sLn (S 0) (sSee (S 0) t) := by
    intro w hw
    rw [et]
    exact if_neg (by omega)
  refine j_aload_n 0 1 dL_areTold_0 rfl rfl ?_
  refine j_iconst 2 dL_areTold_1 rfl ?_
  refine j_callViB (wcs := [_]) (cs := [_]) 0 0 [0] 5 [_, _, _] (c_X7_count E _ _ _ _ _ _ _ (by exact hc0) (by omega)) (jFl_1 _) (jFl_1 _) rfl kL_areTold_X7_count rfl rfl rfl rfl rfl rfl rfl (Nat.le_of_ble_eq_true rfl) (by decide) dL_areTold_2 rfl ?_
  refine j_aload_n 1 6 dL_areTold_5 rfl rfl ?_
  refine j_bipush 8 dL_areTold_6 rfl (by decide) ?_
  refine j_ialdB 1 0 9 dL_areTold_8 rfl rfl rfl (by decide) (by omega) ?_
  refine j_eqn 12 dL_areTold_9 rfl (by rw [hu.1]; rfl) ⟨157, by decide⟩ ?_
  refine j_aload_n 0 13 dL_areTold_12 rfl rfl ?_
  refine j_iconst 14 dL_areTold_13 rfl ?_
  refine j_callViB (wcs := [_]) (cs := [_]) 0 0 [0] 17 [_, _, _] (c_X7_count E _ _ _ _ _ _ _ (by exact hc0) (by omega)) (jFl_1 _) (jFl_1 _) rfl kL_areTold_X7_count rfl rfl rfl rfl rfl rfl rfl (Nat.le_of_ble_eq_true rfl) (by decide) dL_areTold_14 rfl ?_
  refine j_aload_n 1 18 dL_areTold_17 rfl rfl ?_
  refine j_bipush 20 dL_areTold_18 rfl (by decide) ?_
  refine j_ialdB 1 0 21 dL_areTold_20 rfl rfl rfl (by decide) (by omega) ?_
  refine j_eqn 24 dL_areTold_21 rfl (by rw [k1]; rfl) ⟨157, by decide⟩ ?_
  refine j_aload_n 0 25 dL_areTold_24 rfl rfl ?_
  refine j_bipush 27 dL_areTold_25 rfl (by decide) ?_
  refine j_callViB (wcs := [_]) (cs := [_]) 0 0 [0] 30 [_, _, _] (c_X7_count E _ _ _ _ _ _ _ (by exact hc0) (by omega)) (jFl_1 _) (jFl_1 _) rfl kL_areTold_X7_count rfl rfl rfl rfl rfl rfl rfl (Nat.le_of_ble_eq_true rfl) (by decide) dL_areTold_27 rfl ?_
  refine j_aload_n 1 31 dL_areTold_30 rfl rfl ?_
  refine j_bipush 33 dL_areTold_31 rfl (by decide) ?_
  refine j_ialdB 1 0 34 dL_areTold_33 rfl rfl rfl (by decide) (by omega) ?_
  refine j_eqn 37 dL_areTold_34 rfl (by rw [k2]; rfl) ⟨157, by decide⟩ ?_
  refine j_aload_n 0 38 dL_areTold_37 rfl rfl ?_
  refine j_bipush 40 dL_areTold_38 rfl (by decide) ?_
  refine j_callViB (wcs := [_]) (cs := [_]) 0 0 [0] 43 [_, _, _] (c_X7_count E _ _ _ _ _ _ _ (by exact hc0) (by omega)) (jFl_1 _) (jFl_1 _) rfl kL_areTold_X7_count rfl rfl rfl rfl rfl rfl rfl (Nat.le_of_ble_eq_true rfl) (by decide) dL_areTold_40 rfl ?_
  refine j_aload_n 1 44 dL_areTold_43 rfl rfl ?_
  refine j_bipush 46 dL_areTold_44 rfl (by decide) ?_
  refine j_ialdB 1 0 47 dL_areTold_46 rfl rfl rfl (by decide) (by omega) ?_
  refine j_eqn 50 dL_areTold_47 rfl (by rw [k3]; rfl) ⟨157, by decide⟩ ?_
  refine j_aload_n 0 51 dL_areTold_50 rfl rfl ?_
  refine j_bipush 53 dL_areTold_51 rfl (by decide) ?_
  refine j_callViB (wcs := [_]) (cs := [_]) 0 0 [0] 56 [_, _, _] (c_X7_count E _ _ _ _ _ _ _ (by exact hc0) (by omega)) (jFl_1 _) (jFl_1 _) rfl kL_areTold_X7_count rfl rfl rfl rfl rfl rfl rfl (Nat.le_of_ble_eq_true rfl) (by decide) dL_areTold_53 rfl ?_
  refine j_aload_n 1 57 dL_areTold_56 rfl rfl ?_
  refine j_bipush 59 dL_areTold_57 rfl (by decide) ?_
  refine j_ialdB 1 0 60 dL_areTold_59 rfl rfl rfl (by decide) (by omega) ?_
  refine j_eqn 63 dL_areTold_60 rfl (by rw [k4]; rfl) ⟨157, by decide⟩ ?_
  refine j_aload_n 0 64 dL_areTold_63 rfl rfl ?_
  refine j_bipush 66 dL_areTold_64 rfl (by decide) ?_
  refine j_callViB (wcs := [_]) (cs := [_]) 0 0 [0] 69 [_, _, _] (c_X7_count E _ _ _ _ _ _ _ (by exact hc0) (by omega)) (jFl_1 _) (jFl_1 _) rfl kL_areTold_X7_count rfl rfl rfl rfl rfl rfl rfl (Nat.le_of_ble_eq_true rfl) (by decide) dL_areTold_66 rfl ?_
  refine j_aload_n 1 70 dL_areTold_69 rfl rfl ?_
  refine j_bipush 72 dL_areTold_70 rfl (by decide) ?_
  refine j_ialdB 1 0 73 dL_areTold_72 rfl rfl rfl (by decide) (by omega) ?_
  refine j_eqn 76 dL_areTold_73 rfl (by rw [k5]; rfl) ⟨157, by decide⟩ ?_
  refine j_aload_n 0 77 dL_areTold_76 rfl rfl ?_
  refine j_bipush 79 dL_areTold_77 rfl (by decide) ?_
  refine j_callViB (wcs := [_]) (cs := [_]) 0 0 [0] 82 [_, _, _] (c_X7_count E _ _ _ _ _ _ _ (by exact hc0) (by omega)) (jFl_1 _) (jFl_1 _) rfl kL_areTold_X7_count rfl rfl rfl rfl rfl rfl rfl (Nat.le_of_ble_eq_true rfl) (by decide) dL_areTold_79 rfl ?_
  refine j_aload_n 1 83 dL_areTold_82 rfl rfl ?_
  refine j_bipush 85 dL_areTold_83 rfl (by decide) ?_
  refine j_ialdB 1 0 86 dL_areTold_85 rfl rfl rfl (by decide) (by omega) ?_
  refine j_eqn 89 dL_areTold_86 rfl (by rw [k6]; rfl) ⟨157, by decide⟩ ?_
  refine j_aload_n 0 90 dL_areTold_89 rfl rfl ?_
  refine j_bipush 92 dL_areTold_90 rfl (by decide) ?_
  refine j_callViB (wcs := [_]) (cs := [_]) 0 0 [0] 95 [_, _, _] (c_X7_count E _ _ _ _ _ _ _ (by exact hc0) (by omega)) (jFl_1 _) (jFl_1 _) rfl kL_areTold_X7_count rfl rfl rfl rfl rfl rfl rfl (Nat.le_of_ble_eq_true rfl) (by decide) dL_areTold_92 rfl ?_
  refine j_aload_n 1 96 dL_areTold_95 rfl rfl ?_
  refine j_iconst 97 dL_areTold_96 rfl ?_
  refine j_ialdB 1 0 98 dL_areTold_97 rfl rfl rfl (by decide) (by omega) ?_
  refine j_bipush 100 dL_areTold_98 rfl (by decide) ?_
  refine j_iadd 101 dL_areTold_100 rfl ?_
  refine j_eqn 104 dL_areTold_101 rfl (by rw [hs.1]; rfl) ⟨157, by decide⟩ ?_
  refine j_aload_n 0 105 dL_areTold_104 rfl rfl ?_
  refine j_bipush 107 dL_areTold_105 rfl (by decide) ?_
  refine j_callViB (wcs := [_]) (cs := [_]) 0 0 [0] 110 [_, _, _] (c_X7_count E _ _ _ _ _ _ _ (by exact hc0) (by omega)) (jFl_1 _) (jFl_1 _) rfl kL_areTold_X7_count rfl rfl rfl rfl rfl rfl rfl (Nat.le_of_ble_eq_true rfl) (by decide) dL_areTold_107 rfl ?_
  refine j_aload_n 1 111 dL_areTold_110 rfl rfl ?_
  refine j_bipush 113 dL_areTold_111 rfl (by decide) ?_
  refine j_ialdB 1 0 114 dL_areTold_113 rfl rfl rfl (by decide) (by omega) ?_
  refine j_eqn 117 dL_areTold_114 rfl (by rw [hs.2.1]; rfl) ⟨157, by decide⟩ ?_
  refine j_aload_n 0 118 dL_areTold_117 rfl rfl ?_
  refine j_bipush 120 dL_areTold_118 rfl (by decide) ?_
  refine j_callViB (wcs := [_]) (cs := [_]) 0 0 [0] 123 [_, _, _] (c_X7_count E _ _ _ _ _ _ _ (by exact hc0) (by omega)) (jFl_1 _) (jFl_1 _) rfl kL_areTold_X7_count rfl rfl rfl rfl rfl rfl rfl (Nat.le_of_ble_eq_true rfl) (by decide) dL_areTold_120 rfl ?_
  refine j_aload_n 1 124 dL_areTold_123 rfl rfl ?_
  refine j_bipush 126 dL_areTold_124 rfl (by decide) ?_
  refine j_ialdB 1 0 127 dL_areTold_126 rfl rfl rfl (by decide) (by omega) ?_
  refine j_eqn 130 dL_areTold_127 rfl (by rw [hs.2.2.1]; rfl) ⟨157, by decide⟩ ?_
  refine j_aload_n 0 131 dL_areTold_130 rfl rfl ?_
  refine j_aload_n 1 132 dL_areTold_131 rfl rfl ?_
  refine j_bipush 134 dL_areTold_132 rfl (by decide) ?_
  refine j_ialdB 1 0 135 dL_areTold_134 rfl rfl rfl (by decide) (by omega) ?_
  refine j_iconst 136 dL_areTold_135 rfl ?_
  refine j_callViB (wcs := [_]) (cs := [_]) 0 0 [0] 139 [_, _, _] (c_X7_ruleOf E _ _ _ _ _ _ _ _ (by exact hc0) (by omega) (by omega)) (jFl_1 _) (jFl_1 _) rfl kL_areTold_X7_ruleOf rfl rfl rfl rfl rfl rfl rfl (Nat.le_of_ble_eq_true rfl) (by decide) dL_areTold_136 rfl ?_
  refine j_iconst 140 dL_areTold_139 rfl ?_
  refine j_eqn 143 dL_areTold_140 rfl (by exact if_pos (by omega)) ⟨157, by decide⟩ ?_
  refine j_aload_n 0 144 dL_areTold_143 rfl rfl ?_
  refine j_iconst 145 dL_areTold_144 rfl ?_
  refine j_iconst 146 dL_areTold_145 rfl ?_
  refine j_callViB (wcs := [_]) (cs := [_]) 0 0 [0] 149 [_, _, _] (c_X7_ruleOf E _ _ _ _ _ _ _ _ (by exact hc0) (by omega) (by omega)) (jFl_1 _) (jFl_1 _) rfl kL_areTold_X7_ruleOf rfl rfl rfl rfl rfl rfl rfl (Nat.le_of_ble_eq_true rfl) (by decide) dL_areTold_146 rfl ?_
  refine j_iconst 150 dL_areTold_149 rfl ?_
  refine j_eqn 153 dL_areTold_150 rfl (by exact if_pos (by omega)) ⟨157, by decide⟩ ?_
  refine j_iconst 154 dL_areTold_153 rfl ?_
  refine j_goto 158 dL_areTold_154 (by decide) ?_
  refine j_istore 160 [_, _, _, _, _] dL_areTold_158 rfl (by decide) rfl ?_
  refine j_bipush 162 dL_areTold_160 rfl (by decide) ?_
  refine j_iload_n 4 163 dL_areTold_162 rfl rfl ?_
  refine j_sipush 166 dL_areTold_163 rfl (by decide) ?_
  refine j_irem 167 dL_areTold_166 rfl (by omega) (by decide) ?_
  refine j_iadd 168 dL_areTold_167 rfl ?_
  refine j_istore 170 [_, _, _, _, _, _] dL_areTold_168 rfl (by decide) rfl ?_
  refine j_iload_n 5 171 dL_areTold_170 rfl rfl ?_
  refine j_sipush 174 dL_areTold_171 rfl (by decide) ?_
  refine j_idiv 175 dL_areTold_174 rfl (by omega) (by decide) ?_
  refine j_bipush 177 dL_areTold_175 rfl (by decide) ?_
  refine j_irem 178 dL_areTold_177 rfl (by omega) (by decide) ?_
  refine j_istore 180 [_, _, _, _, _, _, _] dL_areTold_178 rfl (by decide) rfl ?_
  refine j_iload_n 6 181 dL_areTold_180 rfl rfl ?_
  refine j_bipush 183 dL_areTold_181 rfl (by decide) ?_
  refine j_idiv 184 dL_areTold_183 rfl (by omega) (by decide) ?_
  refine j_bipush 186 dL_areTold_184 rfl (by decide) ?_
  refine j_irem 187 dL_areTold_186 rfl (by omega) (by decide) ?_
  refine j_istore 189 [_, _, _, _, _, _, _, _] dL_areTold_187 rfl (by decide) rfl ?_
  refine j_aload_n 5 190 dL_areTold_189 rfl rfl ?_
  refine j_iload 2 192 dL_areTold_190 rfl rfl ?_
  refine j_iload 1 194 dL_areTold_192 rfl rfl ?_
  refine j_iload 0 196 dL_areTold_194 rfl rfl ?_
  refine j_callSiB (wcs := []) (cs := []) [] 199 [_, _, _] (c_L_pack E _ _ _ ) rfl rfl rfl kL_areTold_L_pack rfl rfl rfl rfl (Nat.le_of_ble_eq_true rfl) (by decide) dL_areTold_196 rfl ?_
  refine j_callSiB (wcs := [_]) (cs := [_]) [1] 202 [_, _, _] (c_L_look E _ n (S 0) _ t (by exact hx) (by exact hs) (by exact tg) (by exact tp.symm)) (jFl_1 _) (jFl_1 _) rfl kL_areTold_L_look rfl rfl rfl rfl (Nat.le_of_ble_eq_true rfl) (by decide) dL_areTold_199 rfl ?_
  refine j_istore 204 [_, _, _, _, _, _, _, _, _] dL_areTold_202 rfl (by decide) rfl ?_
  refine j_iconst 205 dL_areTold_204 rfl ?_
  refine j_istore 207 [_, _, _, _, _, _, _, _, _, _] dL_areTold_205 rfl (by decide) rfl ?_
  have key207 : ∀ (fu i : Nat), (S 0 9 0).toNat < i + fu → (i : Int) ≤ S 0 9 0 → jG mL_areTold E C (jQi E C (1) (jFl [wEye E ad qh S H P v, wA E na 16 n, wA E ua 36 u])) 0 0 207 [(0, .ref (ad 7 0)), (1, .ref na), (2, .ref ua), (3, .int (jI z)), (4, .int (jI 1)), (5, .int (jI (50 + z % 251))), (6, .int (jI (z / 251 % 101))), (7, .int (jI (z / 9 % 10))), (8, .int (jI (pk (sSee (S 0) t)))), (9, .int (jI (i : Int)))] [] (jFl [wEye E ad qh S H P v, wA E na 16 n, wA E ua 36 u]) := by
    intro fu
    induction fu with
    | zero => intro i h1 h2; exact absurd h1 (by omega)
    | succ fu ih =>
      intro i h1 h2
      refine j_iload 9 209 dL_areTold_207 rfl rfl ?_
      refine j_aload_n 1 210 dL_areTold_209 rfl rfl ?_
      refine j_bipush 212 dL_areTold_210 rfl (by decide) ?_
      refine j_ialdB 1 0 213 dL_areTold_212 rfl rfl rfl (by decide) (by omega) ?_
      rw [s9]
      refine j_icmp_ge 408 216 dL_areTold_213 rfl (by decide) (by omega) (by omega) (fun h_213 => ?_) (fun h_213 => ?_)
      · skip
        refine j_iload 4 410 dL_areTold_408 rfl rfl ?_
        refine j_if_eq 492 413 dL_areTold_410 rfl (by decide) (by decide) (fun h => absurd h (by decide)) (fun _ => ?_)
        refine j_aload_n 0 414 dL_areTold_413 rfl rfl ?_
        refine j_iload 5 416 dL_areTold_414 rfl rfl ?_
        refine j_iload 6 418 dL_areTold_416 rfl rfl ?_
        refine j_iload 7 420 dL_areTold_418 rfl rfl ?_
        refine j_iconst 421 dL_areTold_420 rfl ?_
        refine j_callViB (wcs := [_]) (cs := [_]) 0 0 [0] 424 [_, _, _] (c_X7_lane E _ _ _ _ _ _ _ _ _ _ (by exact hc0) (by omega) (by omega) (by omega) (by omega)) (jFl_1 _) (jFl_1 _) rfl kL_areTold_X7_lane rfl rfl rfl rfl rfl rfl rfl (Nat.le_of_ble_eq_true rfl) (by decide) dL_areTold_421 rfl ?_
        refine j_aload_n 1 425 dL_areTold_424 rfl rfl ?_
        refine j_aload_n 2 426 dL_areTold_425 rfl rfl ?_
        refine j_iload 8 428 dL_areTold_426 rfl rfl ?_
        refine j_callSiB (wcs := [_, _]) (cs := [_, _]) [1, 2] 431 [_, _, _] (c_L_lane E _ _ n u (S 0) _ (sSee (S 0) t) (by exact hx) (by exact hu) (by omega) (by rfl)) rfl rfl rfl kL_areTold_L_lane rfl rfl rfl rfl (Nat.le_of_ble_eq_true rfl) (by decide) dL_areTold_428 rfl ?_
        refine j_eqn 434 dL_areTold_431 rfl (by exact lt 0 (Or.inl rfl)) ⟨492, by decide⟩ ?_
        refine j_aload_n 0 435 dL_areTold_434 rfl rfl ?_
        refine j_iload 5 437 dL_areTold_435 rfl rfl ?_
        refine j_iload 6 439 dL_areTold_437 rfl rfl ?_
        refine j_iload 7 441 dL_areTold_439 rfl rfl ?_
        refine j_iconst 442 dL_areTold_441 rfl ?_
        refine j_callViB (wcs := [_]) (cs := [_]) 0 0 [0] 445 [_, _, _] (c_X7_lane E _ _ _ _ _ _ _ _ _ _ (by exact hc0) (by omega) (by omega) (by omega) (by omega)) (jFl_1 _) (jFl_1 _) rfl kL_areTold_X7_lane rfl rfl rfl rfl rfl rfl rfl (Nat.le_of_ble_eq_true rfl) (by decide) dL_areTold_442 rfl ?_
        refine j_aload_n 1 446 dL_areTold_445 rfl rfl ?_
        refine j_aload_n 2 447 dL_areTold_446 rfl rfl ?_
        refine j_iload 8 449 dL_areTold_447 rfl rfl ?_
        refine j_callSiB (wcs := [_, _]) (cs := [_, _]) [1, 2] 452 [_, _, _] (c_L_lane E _ _ n u (S 0) _ (sSee (S 0) t) (by exact hx) (by exact hu) (by omega) (by rfl)) rfl rfl rfl kL_areTold_L_lane rfl rfl rfl rfl (Nat.le_of_ble_eq_true rfl) (by decide) dL_areTold_449 rfl ?_
        refine j_eqn 455 dL_areTold_452 rfl (by exact lt 1 (Or.inr rfl)) ⟨492, by decide⟩ ?_
        refine j_aload_n 0 456 dL_areTold_455 rfl rfl ?_
        refine j_bipush 458 dL_areTold_456 rfl (by decide) ?_
        refine j_iload 6 460 dL_areTold_458 rfl rfl ?_
        refine j_iload 7 462 dL_areTold_460 rfl rfl ?_
        refine j_iconst 463 dL_areTold_462 rfl ?_
        refine j_callViB (wcs := [_]) (cs := [_]) 0 0 [0] 466 [_, _, _] (c_X7_lane E _ _ _ _ _ _ _ _ _ _ (by exact hc0) (by omega) (by omega) (by omega) (by omega)) (jFl_1 _) (jFl_1 _) rfl kL_areTold_X7_lane rfl rfl rfl rfl rfl rfl rfl (Nat.le_of_ble_eq_true rfl) (by decide) dL_areTold_463 rfl ?_
        refine j_iconst 467 dL_areTold_466 rfl ?_
        refine j_eqn 470 dL_areTold_467 rfl (by exact if_pos (Or.inl (if_neg (by omega)))) ⟨492, by decide⟩ ?_
        refine j_aload_n 0 471 dL_areTold_470 rfl rfl ?_
        refine j_aload_n 1 472 dL_areTold_471 rfl rfl ?_
        refine j_bipush 474 dL_areTold_472 rfl (by decide) ?_
        refine j_ialdB 1 0 475 dL_areTold_474 rfl rfl rfl (by decide) (by omega) ?_
        refine j_iload 5 477 dL_areTold_475 rfl rfl ?_
        refine j_iload 6 479 dL_areTold_477 rfl rfl ?_
        refine j_iload 7 481 dL_areTold_479 rfl rfl ?_
        refine j_callViB (wcs := [_]) (cs := [_]) 0 0 [0] 484 [_, _, _] (c_X7_misses E _ _ _ _ _ _ _ _ _ _ (by exact hc0) (by omega) (by omega) (by omega) (by omega)) (jFl_1 _) (jFl_1 _) rfl kL_areTold_X7_misses rfl rfl rfl rfl rfl rfl rfl (Nat.le_of_ble_eq_true rfl) (by decide) dL_areTold_481 rfl ?_
        refine j_iconst 485 dL_areTold_484 rfl ?_
        refine j_eqn 488 dL_areTold_485 rfl (by exact if_pos (by omega)) ⟨492, by decide⟩ ?_
        refine j_iconst 489 dL_areTold_488 rfl ?_
        refine j_goto 493 dL_areTold_489 (by decide) ?_
        exact j_zret dL_areTold_493 rfl (by rfl) (by decide) (by rfl)
      · skip
        have hi9 : (i : Int) < S 0 9 0 := by omega
        obtain ⟨u0, u1, u2, u3⟩ := hu.2 i (by omega) hi9
        obtain ⟨mr0, mr1, mr2, mr3, mr4⟩ := mRuleOf_at (x := S 0) (i := (i : Int)) (by omega)
        have r0i := r0 (i : Int)
        have wi : 0 ≤ tW (S 0 0 (i : Int)) ∧ tW (S 0 0 (i : Int)) ≤ 495 := by unfold tW; omega
        have ri := tR_rng (S 0 0 (i : Int))
        have bi := tB_rng (S 0 0 (i : Int))
        have hall := hidP_all (S 0 0) (S 0 0 (i : Int)) i
        rw [Int.toNat_natCast] at mr4
        rw [← hall] at mr4
        refine j_iconst 217 dL_areTold_216 rfl ?_
        refine j_istore 219 [_, _, _, _, _, _, _, _, _, _, _] dL_areTold_217 rfl (by decide) rfl ?_
        refine j_iconst 220 dL_areTold_219 rfl ?_
        refine j_istore 222 [_, _, _, _, _, _, _, _, _, _, _, _] dL_areTold_220 rfl (by decide) rfl ?_
        have key222 : ∀ (fg j : Nat), i < j + fg → j ≤ i → jG mL_areTold E C (jQi E C (1) (jFl [wEye E ad qh S H P v, wA E na 16 n, wA E ua 36 u])) 0 0 222 [(0, .ref (ad 7 0)), (1, .ref na), (2, .ref ua), (3, .int (jI z)), (4, .int (jI 1)), (5, .int (jI (50 + z % 251))), (6, .int (jI (z / 251 % 101))), (7, .int (jI (z / 9 % 10))), (8, .int (jI (pk (sSee (S 0) t)))), (9, .int (jI (i : Int))), (10, .int (jI (hidP (S 0 0) (S 0 0 (i : Int)) j))), (11, .int (jI (j : Int)))] [] (jFl [wEye E ad qh S H P v, wA E na 16 n, wA E ua 36 u]) := by
          intro fg
          induction fg with
          | zero => intro j h3 h4; exact absurd h3 (by omega)
          | succ fg ihj =>
            intro j h3 h4
            refine j_iload 11 224 dL_areTold_222 rfl rfl ?_
            refine j_iload 9 226 dL_areTold_224 rfl rfl ?_
            refine j_icmp_ge 300 229 dL_areTold_226 rfl (by decide) (by omega) (by omega) (fun h_226 => ?_) (fun h_226 => ?_)
            · skip
              obtain rfl : i = j := by omega
              have h01 := hidP_01 (S 0 0) (S 0 0 (i : Int)) i
              refine j_iconst 301 dL_areTold_300 rfl ?_
              refine j_istore 303 [_, _, _, _, _, _, _, _, _, _, _, _] dL_areTold_301 rfl (by decide) rfl ?_
              have key303 : ∀ (fh k : Nat), 4 < k + fh → k ≤ 4 → jG mL_areTold E C (jQi E C (1) (jFl [wEye E ad qh S H P v, wA E na 16 n, wA E ua 36 u])) 0 0 303 [(0, .ref (ad 7 0)), (1, .ref na), (2, .ref ua), (3, .int (jI z)), (4, .int (jI 1)), (5, .int (jI (50 + z % 251))), (6, .int (jI (z / 251 % 101))), (7, .int (jI (z / 9 % 10))), (8, .int (jI (pk (sSee (S 0) t)))), (9, .int (jI (i : Int))), (10, .int (jI (hidP (S 0 0) (S 0 0 (i : Int)) i))), (11, .int (jI (k : Int)))] [] (jFl [wEye E ad qh S H P v, wA E na 16 n, wA E ua 36 u]) := by
                intro fh
                induction fh with
                | zero => intro k h5 h6; exact absurd h5 (by omega)
                | succ fh ihk =>
                  intro k h5 h6
                  refine j_iload 11 305 dL_areTold_303 rfl rfl ?_
                  refine j_iconst 306 dL_areTold_305 rfl ?_
                  refine j_icmp_ge 347 309 dL_areTold_306 rfl (by decide) (by omega) (by omega) (fun h_306 => ?_) (fun h_306 => ?_)
                  · skip
                    skip
                    refine j_iload 4 349 dL_areTold_347 rfl rfl ?_
                    refine j_if_eq 399 352 dL_areTold_349 rfl (by decide) (by decide) (fun h => absurd h (by decide)) (fun _ => ?_)
                    refine j_aload_n 0 353 dL_areTold_352 rfl rfl ?_
                    refine j_iload 9 355 dL_areTold_353 rfl rfl ?_
                    refine j_iconst 356 dL_areTold_355 rfl ?_
                    refine j_callViB (wcs := [_]) (cs := [_]) 0 0 [0] 359 [_, _, _] (c_X7_ruleOf E _ _ _ _ _ _ _ _ (by exact hc0) (by omega) (by omega)) (jFl_1 _) (jFl_1 _) rfl kL_areTold_X7_ruleOf rfl rfl rfl rfl rfl rfl rfl (Nat.le_of_ble_eq_true rfl) (by decide) dL_areTold_356 rfl ?_
                    refine j_iload 10 361 dL_areTold_359 rfl rfl ?_
                    refine j_if_eq 368 364 dL_areTold_361 rfl (by decide) (by omega) (fun h_361 => ?_) (fun h_361 => ?_)
                    · skip
                      have e361 : mRuleOf (S 0) (i : Int) 4 = 0 := by omega
                      refine j_iconst 369 dL_areTold_368 rfl ?_
                      refine j_eqn 372 dL_areTold_369 rfl (by exact e361) ⟨399, by decide⟩ ?_
                      refine j_aload_n 0 373 dL_areTold_372 rfl rfl ?_
                      refine j_iload 9 375 dL_areTold_373 rfl rfl ?_
                      refine j_iload 5 377 dL_areTold_375 rfl rfl ?_
                      refine j_iload 6 379 dL_areTold_377 rfl rfl ?_
                      refine j_iload 7 381 dL_areTold_379 rfl rfl ?_
                      refine j_callViB (wcs := [_]) (cs := [_]) 0 0 [0] 384 [_, _, _] (c_X7_misses E _ _ _ _ _ _ _ _ _ _ (by exact hc0) (by omega) (by omega) (by omega) (by omega)) (jFl_1 _) (jFl_1 _) rfl kL_areTold_X7_misses rfl rfl rfl rfl rfl rfl rfl (Nat.le_of_ble_eq_true rfl) (by decide) dL_areTold_381 rfl ?_
                      refine j_aload_n 2 385 dL_areTold_384 rfl rfl ?_
                      refine j_iload 9 387 dL_areTold_385 rfl rfl ?_
                      refine j_iload 8 389 dL_areTold_387 rfl rfl ?_
                      refine j_callSiB (wcs := [_]) (cs := [_]) [2] 392 [_, _, _] (c_L_why E _ u (S 0) _ _ (sSee (S 0) t) (by exact hx) (by exact ⟨u0, u1, u2⟩) (by omega) (by omega) (by rfl)) (jFl_1 _) (jFl_1 _) rfl kL_areTold_L_why rfl rfl rfl rfl (Nat.le_of_ble_eq_true rfl) (by decide) dL_areTold_389 rfl ?_
                      refine j_eqn 395 dL_areTold_392 rfl (by rw [et]; exact if_neg (by omega)) ⟨399, by decide⟩ ?_
                      refine j_iconst 396 dL_areTold_395 rfl ?_
                      refine j_goto 400 dL_areTold_396 (by decide) ?_
                      refine j_istore 402 [_, _, _, _, _, _, _, _, _, _, _, _] dL_areTold_400 rfl (by decide) rfl ?_
                      refine j_iinc 9 405 [_, _, _, _, _, _, _, _, _, _, _, _] dL_areTold_402 rfl rfl (by decide) rfl ?_
                      refine j_goto 207 dL_areTold_405 (by decide) ?_
                      refine j_perm [2, 3, 4, 5, 1, 6, 7, 8, 9, 0] rfl ?_
                      exact ih (i + 1) (by omega) (by omega)
                    · skip
                      have e361 : mRuleOf (S 0) (i : Int) 4 = 1 := by omega
                      refine j_iconst 365 dL_areTold_364 rfl ?_
                      refine j_goto 369 dL_areTold_365 (by decide) ?_
                      refine j_eqn 372 dL_areTold_369 rfl (by exact e361) ⟨399, by decide⟩ ?_
                      refine j_aload_n 0 373 dL_areTold_372 rfl rfl ?_
                      refine j_iload 9 375 dL_areTold_373 rfl rfl ?_
                      refine j_iload 5 377 dL_areTold_375 rfl rfl ?_
                      refine j_iload 6 379 dL_areTold_377 rfl rfl ?_
                      refine j_iload 7 381 dL_areTold_379 rfl rfl ?_
                      refine j_callViB (wcs := [_]) (cs := [_]) 0 0 [0] 384 [_, _, _] (c_X7_misses E _ _ _ _ _ _ _ _ _ _ (by exact hc0) (by omega) (by omega) (by omega) (by omega)) (jFl_1 _) (jFl_1 _) rfl kL_areTold_X7_misses rfl rfl rfl rfl rfl rfl rfl (Nat.le_of_ble_eq_true rfl) (by decide) dL_areTold_381 rfl ?_
                      refine j_aload_n 2 385 dL_areTold_384 rfl rfl ?_
                      refine j_iload 9 387 dL_areTold_385 rfl rfl ?_
                      refine j_iload 8 389 dL_areTold_387 rfl rfl ?_
                      refine j_callSiB (wcs := [_]) (cs := [_]) [2] 392 [_, _, _] (c_L_why E _ u (S 0) _ _ (sSee (S 0) t) (by exact hx) (by exact ⟨u0, u1, u2⟩) (by omega) (by omega) (by rfl)) (jFl_1 _) (jFl_1 _) rfl kL_areTold_L_why rfl rfl rfl rfl (Nat.le_of_ble_eq_true rfl) (by decide) dL_areTold_389 rfl ?_
                      refine j_eqn 395 dL_areTold_392 rfl (by rw [et]; exact if_neg (by omega)) ⟨399, by decide⟩ ?_
                      refine j_iconst 396 dL_areTold_395 rfl ?_
                      refine j_goto 400 dL_areTold_396 (by decide) ?_
                      refine j_istore 402 [_, _, _, _, _, _, _, _, _, _, _, _] dL_areTold_400 rfl (by decide) rfl ?_
                      refine j_iinc 9 405 [_, _, _, _, _, _, _, _, _, _, _, _] dL_areTold_402 rfl rfl (by decide) rfl ?_
                      refine j_goto 207 dL_areTold_405 (by decide) ?_
                      refine j_perm [2, 3, 4, 5, 1, 6, 7, 8, 9, 0] rfl ?_
                      exact ih (i + 1) (by omega) (by omega)
                  · skip
                    refine j_iload 4 311 dL_areTold_309 rfl rfl ?_
                    refine j_if_eq 338 314 dL_areTold_311 rfl (by decide) (by decide) (fun h => absurd h (by decide)) (fun _ => ?_)
                    refine j_aload_n 0 315 dL_areTold_314 rfl rfl ?_
                    refine j_iload 9 317 dL_areTold_315 rfl rfl ?_
                    refine j_iload 11 319 dL_areTold_317 rfl rfl ?_
                    refine j_callViB (wcs := [_]) (cs := [_]) 0 0 [0] 322 [_, _, _] (c_X7_ruleOf E _ _ _ _ _ _ _ _ (by exact hc0) (by omega) (by omega)) (jFl_1 _) (jFl_1 _) rfl kL_areTold_X7_ruleOf rfl rfl rfl rfl rfl rfl rfl (Nat.le_of_ble_eq_true rfl) (by decide) dL_areTold_319 rfl ?_
                    refine j_aload_n 2 323 dL_areTold_322 rfl rfl ?_
                    refine j_iconst 324 dL_areTold_323 rfl ?_
                    refine j_iload 9 326 dL_areTold_324 rfl rfl ?_
                    refine j_imul 327 dL_areTold_326 rfl ?_
                    refine j_iload 11 329 dL_areTold_327 rfl rfl ?_
                    refine j_iadd 330 dL_areTold_329 rfl ?_
                    refine j_ialdB 2 0 331 dL_areTold_330 rfl rfl rfl (by decide) (by omega) ?_
                    refine j_eqn 334 dL_areTold_331 rfl (by rcases (show k = 0 ∨ k = 1 ∨ k = 2 ∨ k = 3 by omega) with rfl | rfl | rfl | rfl; exact mr0.trans (u0.symm.trans (by rw [show (4 * (i : Int) + ((0 : Nat) : Int)) = 4 * (i : Int) by omega])); exact mr1.trans u1.symm; exact mr2.trans u2.symm; exact mr3.trans u3.symm) ⟨338, by decide⟩ ?_
                    refine j_iconst 335 dL_areTold_334 rfl ?_
                    refine j_goto 339 dL_areTold_335 (by decide) ?_
                    refine j_istore 341 [_, _, _, _, _, _, _, _, _, _, _, _] dL_areTold_339 rfl (by decide) rfl ?_
                    refine j_iinc 11 344 [_, _, _, _, _, _, _, _, _, _, _, _] dL_areTold_341 rfl rfl (by decide) rfl ?_
                    refine j_goto 303 dL_areTold_344 (by decide) ?_
                    refine j_perm [2, 3, 4, 5, 1, 6, 7, 8, 9, 10, 11, 0] rfl ?_
                    exact ihk (k + 1) (by omega) (by omega)
              refine j_perm [1, 2, 3, 4, 5, 6, 7, 8, 9, 10, 11, 0] rfl ?_
              exact key303 5 0 (by omega) (by omega)
            · skip
              have r0j := r0 (j : Int)
              have wj : 0 ≤ tW (S 0 0 (j : Int)) ∧ tW (S 0 0 (j : Int)) ≤ 495 := by unfold tW; omega
              have rj := tR_rng (S 0 0 (j : Int))
              have bj := tB_rng (S 0 0 (j : Int))
              obtain ⟨v0, v1, v2, -⟩ := hu.2 j (by omega) (by omega)
              have ts := tShort_0 (S 0 0 (j : Int)) (S 0 0 (i : Int))
              refine j_iload 10 231 dL_areTold_229 rfl rfl ?_
              have h01 := hidP_01 (S 0 0) (S 0 0 (i : Int)) j
              refine j_if_ne 287 234 dL_areTold_231 rfl (by decide) (by omega) (fun h_231 => ?_) (fun h_231 => ?_)
              · skip
                refine j_iconst 288 dL_areTold_287 rfl ?_
                refine j_goto 292 dL_areTold_288 (by decide) ?_
                refine j_istore 294 [_, _, _, _, _, _, _, _, _, _, _, _] dL_areTold_292 rfl (by decide) rfl ?_
                refine j_iinc 11 297 [_, _, _, _, _, _, _, _, _, _, _, _] dL_areTold_294 rfl rfl (by decide) rfl ?_
                refine j_goto 222 dL_areTold_297 (by decide) ?_
                refine j_perm [2, 3, 4, 5, 6, 7, 8, 9, 10, 11, 1, 0] rfl ?_
                have g := ihj (j + 1) (by omega) (by omega)
                rw [show (hidP (S 0 0) (S 0 0 (i : Int)) (j + 1)) = if ¬ (hidP (S 0 0) (S 0 0 (i : Int)) j) = 0 ∨ tShort (S 0 0 (j : Int)) (S 0 0 (i : Int)) = 0 then 1 else 0 from rfl] at g
                first
                  | (rw [if_pos (by omega)] at g; exact g)
                  | (rw [if_neg (by omega)] at g; exact g)
              · skip
                refine j_aload_n 2 235 dL_areTold_234 rfl rfl ?_
                refine j_iconst 236 dL_areTold_235 rfl ?_
                refine j_iload 11 238 dL_areTold_236 rfl rfl ?_
                refine j_imul 239 dL_areTold_238 rfl ?_
                refine j_ialdB 2 0 240 dL_areTold_239 rfl rfl rfl (by decide) (by omega) ?_
                refine j_aload_n 2 241 dL_areTold_240 rfl rfl ?_
                refine j_iconst 242 dL_areTold_241 rfl ?_
                refine j_iload 9 244 dL_areTold_242 rfl rfl ?_
                refine j_imul 245 dL_areTold_244 rfl ?_
                refine j_ialdB 2 0 246 dL_areTold_245 rfl rfl rfl (by decide) (by omega) ?_
                refine j_icmp_gt 291 249 dL_areTold_246 rfl (by decide) (by omega) (by omega) (fun h_246 => ?_) (fun h_246 => ?_)
                · skip
                  refine j_iconst 292 dL_areTold_291 rfl ?_
                  refine j_istore 294 [_, _, _, _, _, _, _, _, _, _, _, _] dL_areTold_292 rfl (by decide) rfl ?_
                  refine j_iinc 11 297 [_, _, _, _, _, _, _, _, _, _, _, _] dL_areTold_294 rfl rfl (by decide) rfl ?_
                  refine j_goto 222 dL_areTold_297 (by decide) ?_
                  refine j_perm [2, 3, 4, 5, 6, 7, 8, 9, 10, 11, 1, 0] rfl ?_
                  have g := ihj (j + 1) (by omega) (by omega)
                  rw [show (hidP (S 0 0) (S 0 0 (i : Int)) (j + 1)) = if ¬ (hidP (S 0 0) (S 0 0 (i : Int)) j) = 0 ∨ tShort (S 0 0 (j : Int)) (S 0 0 (i : Int)) = 0 then 1 else 0 from rfl] at g
                  first
                    | (rw [if_pos (by omega)] at g; exact g)
                    | (rw [if_neg (by omega)] at g; exact g)
                · skip
                  refine j_aload_n 2 250 dL_areTold_249 rfl rfl ?_
                  refine j_iconst 251 dL_areTold_250 rfl ?_
                  refine j_iload 11 253 dL_areTold_251 rfl rfl ?_
                  refine j_imul 254 dL_areTold_253 rfl ?_
                  refine j_iconst 255 dL_areTold_254 rfl ?_
                  refine j_iadd 256 dL_areTold_255 rfl ?_
                  refine j_ialdB 2 0 257 dL_areTold_256 rfl rfl rfl (by decide) (by omega) ?_
                  refine j_aload_n 2 258 dL_areTold_257 rfl rfl ?_
                  refine j_iconst 259 dL_areTold_258 rfl ?_
                  refine j_iload 9 261 dL_areTold_259 rfl rfl ?_
                  refine j_imul 262 dL_areTold_261 rfl ?_
                  refine j_iconst 263 dL_areTold_262 rfl ?_
                  refine j_iadd 264 dL_areTold_263 rfl ?_
                  refine j_ialdB 2 0 265 dL_areTold_264 rfl rfl rfl (by decide) (by omega) ?_
                  refine j_icmp_gt 291 268 dL_areTold_265 rfl (by decide) (by omega) (by omega) (fun h_265 => ?_) (fun h_265 => ?_)
                  · skip
                    refine j_iconst 292 dL_areTold_291 rfl ?_
                    refine j_istore 294 [_, _, _, _, _, _, _, _, _, _, _, _] dL_areTold_292 rfl (by decide) rfl ?_
                    refine j_iinc 11 297 [_, _, _, _, _, _, _, _, _, _, _, _] dL_areTold_294 rfl rfl (by decide) rfl ?_
                    refine j_goto 222 dL_areTold_297 (by decide) ?_
                    refine j_perm [2, 3, 4, 5, 6, 7, 8, 9, 10, 11, 1, 0] rfl ?_
                    have g := ihj (j + 1) (by omega) (by omega)
                    rw [show (hidP (S 0 0) (S 0 0 (i : Int)) (j + 1)) = if ¬ (hidP (S 0 0) (S 0 0 (i : Int)) j) = 0 ∨ tShort (S 0 0 (j : Int)) (S 0 0 (i : Int)) = 0 then 1 else 0 from rfl] at g
                    first
                      | (rw [if_pos (by omega)] at g; exact g)
                      | (rw [if_neg (by omega)] at g; exact g)
                  · skip
                    refine j_aload_n 2 269 dL_areTold_268 rfl rfl ?_
                    refine j_iconst 270 dL_areTold_269 rfl ?_
                    refine j_iload 11 272 dL_areTold_270 rfl rfl ?_
                    refine j_imul 273 dL_areTold_272 rfl ?_
                    refine j_iconst 274 dL_areTold_273 rfl ?_
                    refine j_iadd 275 dL_areTold_274 rfl ?_
                    refine j_ialdB 2 0 276 dL_areTold_275 rfl rfl rfl (by decide) (by omega) ?_
                    refine j_aload_n 2 277 dL_areTold_276 rfl rfl ?_
                    refine j_iconst 278 dL_areTold_277 rfl ?_
                    refine j_iload 9 280 dL_areTold_278 rfl rfl ?_
                    refine j_imul 281 dL_areTold_280 rfl ?_
                    refine j_iconst 282 dL_areTold_281 rfl ?_
                    refine j_iadd 283 dL_areTold_282 rfl ?_
                    refine j_ialdB 2 0 284 dL_areTold_283 rfl rfl rfl (by decide) (by omega) ?_
                    refine j_icmp_lt 291 287 dL_areTold_284 rfl (by decide) (by omega) (by omega) (fun h_284 => ?_) (fun h_284 => ?_)
                    · skip
                      refine j_iconst 292 dL_areTold_291 rfl ?_
                      refine j_istore 294 [_, _, _, _, _, _, _, _, _, _, _, _] dL_areTold_292 rfl (by decide) rfl ?_
                      refine j_iinc 11 297 [_, _, _, _, _, _, _, _, _, _, _, _] dL_areTold_294 rfl rfl (by decide) rfl ?_
                      refine j_goto 222 dL_areTold_297 (by decide) ?_
                      refine j_perm [2, 3, 4, 5, 6, 7, 8, 9, 10, 11, 1, 0] rfl ?_
                      have g := ihj (j + 1) (by omega) (by omega)
                      rw [show (hidP (S 0 0) (S 0 0 (i : Int)) (j + 1)) = if ¬ (hidP (S 0 0) (S 0 0 (i : Int)) j) = 0 ∨ tShort (S 0 0 (j : Int)) (S 0 0 (i : Int)) = 0 then 1 else 0 from rfl] at g
                      first
                        | (rw [if_pos (by omega)] at g; exact g)
                        | (rw [if_neg (by omega)] at g; exact g)
                    · skip
                      refine j_iconst 288 dL_areTold_287 rfl ?_
                      refine j_goto 292 dL_areTold_288 (by decide) ?_
                      refine j_istore 294 [_, _, _, _, _, _, _, _, _, _, _, _] dL_areTold_292 rfl (by decide) rfl ?_
                      refine j_iinc 11 297 [_, _, _, _, _, _, _, _, _, _, _, _] dL_areTold_294 rfl rfl (by decide) rfl ?_
                      refine j_goto 222 dL_areTold_297 (by decide) ?_
                      refine j_perm [2, 3, 4, 5, 6, 7, 8, 9, 10, 11, 1, 0] rfl ?_
                      have g := ihj (j + 1) (by omega) (by omega)
                      rw [show (hidP (S 0 0) (S 0 0 (i : Int)) (j + 1)) = if ¬ (hidP (S 0 0) (S 0 0 (i : Int)) j) = 0 ∨ tShort (S 0 0 (j : Int)) (S 0 0 (i : Int)) = 0 then 1 else 0 from rfl] at g
                      first
                        | (rw [if_pos (by omega)] at g; exact g)
                        | (rw [if_neg (by omega)] at g; exact g)
        refine j_perm [2, 3, 4, 5, 6, 7, 8, 9, 10, 11, 1, 0] rfl ?_
        exact key222 (i + 1) 0 (by omega) (by omega)
  refine j_perm [6, 7, 8, 9, 5, 4, 3, 2, 1, 0] rfl ?_
  exact key207 ((S 0 9 0).toNat + 1) 0 (by omega) (by omega)
