def jMax (a b : Int) : Int := if a < b then b else a
def jMin (a b : Int) : Int := if b < a then b else a
/-- n places of f from sp on, laid into g from dp on -/
def jCp (f g : Int → Int) (sp dp n : Int) : Int → Int := fun j => if dp ≤ j ∧ j < dp + n then f (sp + (j - dp)) else g j
theorem jA_cpy {f g : Int → Int} {sp dp n : Int} (h1 : 0 ≤ sp ∧ sp < 2147483648) (h2 : 0 ≤ dp ∧ dp < 2147483648) (h3 : 0 ≤ n ∧ n < 2147483648) : va_cpy (jA f) (jA g) (jI sp).toNatClampNeg (jI dp).toNatClampNeg (jI n).toNatClampNeg = jA (jCp f g sp dp n) := by
  rw [jI_clamp h1, jI_clamp h2, jI_clamp h3]
  funext j
  show (if dp.toNat ≤ j ∧ j < dp.toNat + n.toNat then jI (f ((sp.toNat + (j - dp.toNat) : Nat) : Int)) else jI (g j)) = jI (if dp ≤ (j : Int) ∧ (j : Int) < dp + n then f (sp + ((j : Int) - dp)) else g j)
  by_cases hj : dp.toNat ≤ j ∧ j < dp.toNat + n.toNat
  · rw [if_pos hj, if_pos (by omega)]
    congr 2
    omega
  · rw [if_neg hj, if_neg (by omega)]
section
variable {M : jM} {E : jE} {C : jC} {Q : State → Prop} {k n pc : Nat} {L : List (Nat × Value)} {S : List Value} {w : va_W}
theorem j_mmax {index : Nat} {a b : Int} (pc' : Nat) (h1 : (.methodLink M.2.2.1 index Lib.Math.max.name : Cond) ∈ M.2.1) (h2 : (.static Lib.Math.max.name : Cond) ∈ M.2.1) (h3 : (.initialized "java/lang/Math" : Cond) ∈ M.2.1) (h4 : (.code Lib.Math.max.name Lib.Math.max.code 2 (some .int) : Cond) ∈ M.2.1) (hR : 1 ≤ M.2.2.2.2.2.frames ∧ (S.map fun v => v.category).sum + 13 ≤ M.2.2.2.2.2.locals) (hcap : k ≤ M.2.2.2.2.2.cells ∧ n ≤ M.2.2.2.2.2.slots) (hd : decode M.1 pc = .ok (.invokestatic index, 3)) (hn : pc + 3 = pc') (ha : -2147483648 ≤ a ∧ a < 2147483648) (hb : -2147483648 ≤ b ∧ b < 2147483648) (kk : jG M E C Q k n pc' L (.int (jI (jMax a b)) :: S) w) : jG M E C Q k n pc L (.int (jI b) :: .int (jI a) :: S) w := by
  subst hn
  intro hF H locs ls hP hD hS hl
  have hts := hF.2.2.2.2.1
  refine va_mmax hF.1 hF.2.1 (hF.2.2.1.trans hl.1.symm) hF.2.2.2.1 (hts _ h1) (hts _ h2) (hts _ h3) (hts _ h4) hR.1 hR.2 hcap.1 hcap.2 hd ?_
  have e : (if jI a < jI b then jI b else jI a) = jI (jMax a b) := by
    unfold jMax
    by_cases h : a < b
    · rw [if_pos ((jI_lt ha hb).mpr h), if_pos h]
    · rw [if_neg (fun q => h ((jI_lt ha hb).mp q)), if_neg h]
  rw [e]
  exact kk hF H locs ls hP hD hS hl
theorem j_mmin {index : Nat} {a b : Int} (pc' : Nat) (h1 : (.methodLink M.2.2.1 index Lib.Math.min.name : Cond) ∈ M.2.1) (h2 : (.static Lib.Math.min.name : Cond) ∈ M.2.1) (h3 : (.initialized "java/lang/Math" : Cond) ∈ M.2.1) (h4 : (.code Lib.Math.min.name Lib.Math.min.code 2 (some .int) : Cond) ∈ M.2.1) (hR : 1 ≤ M.2.2.2.2.2.frames ∧ (S.map fun v => v.category).sum + 13 ≤ M.2.2.2.2.2.locals) (hcap : k ≤ M.2.2.2.2.2.cells ∧ n ≤ M.2.2.2.2.2.slots) (hd : decode M.1 pc = .ok (.invokestatic index, 3)) (hn : pc + 3 = pc') (ha : -2147483648 ≤ a ∧ a < 2147483648) (hb : -2147483648 ≤ b ∧ b < 2147483648) (kk : jG M E C Q k n pc' L (.int (jI (jMin a b)) :: S) w) : jG M E C Q k n pc L (.int (jI b) :: .int (jI a) :: S) w := by
  subst hn
  intro hF H locs ls hP hD hS hl
  have hts := hF.2.2.2.2.1
  refine va_mmin hF.1 hF.2.1 (hF.2.2.1.trans hl.1.symm) hF.2.2.2.1 (hts _ h1) (hts _ h2) (hts _ h3) (hts _ h4) hR.1 hR.2 hcap.1 hcap.2 hd ?_
  have e : (if jI b < jI a then jI b else jI a) = jI (jMin a b) := by
    unfold jMin
    by_cases h : b < a
    · rw [if_pos ((jI_lt hb ha).mpr h), if_pos h]
    · rw [if_neg (fun q => h ((jI_lt hb ha).mp q)), if_neg h]
  rw [e]
  exact kk hF H locs ls hP hD hS hl
/-- System.arraycopy of ints -/
theorem j_copyi {index a a0 n0 n1 : Nat} {f g : Int → Int} {sp dp cn : Int} (q0 q1 pc' : Nat) (w' : va_W) (h1 : (.methodLink M.2.2.1 index arraycopyName : Cond) ∈ M.2.1) (h2 : (.native arraycopyName : Cond) ∈ M.2.1) (h3 : (.static arraycopyName : Cond) ∈ M.2.1) (h4 : (.initialized "java/lang/System" : Cond) ∈ M.2.1) (hR : 1 ≤ M.2.2.2.2.2.frames ∧ (S.map fun v => v.category).sum + (nativeFrameWords "java/lang/System" "arraycopy" 5 + 11) ≤ M.2.2.2.2.2.locals) (hd : decode M.1 pc = .ok (.invokestatic index, 3)) (hn : pc + 3 = pc') (ha0 : w[q0]? = some (a0, .inl (E.2.1, n0, .inl (jA f)))) (ha1 : w[q1]? = some (a, .inl (E.2.1, n1, .inl (jA g)))) (hA : n0 < 2147483648 ∧ n1 < 2147483648) (hi : 0 ≤ sp ∧ 0 ≤ dp ∧ 0 ≤ cn ∧ sp + cn ≤ (n0 : Int) ∧ dp + cn ≤ (n1 : Int)) (hw : w.set q1 (a, .inl (E.2.1, n1, .inl (jA (jCp f g sp dp cn)))) = w') (kk : jG M E C Q k n pc' L S w') : jG M E C Q k n pc L (.int (jI cn) :: .int (jI dp) :: .ref a :: .int (jI sp) :: .ref a0 :: S) w := by
  subst hn; subst hw
  intro hF H locs ls hP hD hS hl
  have hts := hF.2.2.2.2.1
  have b1 : 0 ≤ sp ∧ sp < 2147483648 := by omega
  have b2 : 0 ≤ dp ∧ dp < 2147483648 := by omega
  have b3 : 0 ≤ cn ∧ cn < 2147483648 := by omega
  have z : ∀ x : Int, 0 ≤ x ∧ x < 2147483648 → ¬ jI x < 0 := fun x hx => by
    rw [jI_0, jI_lt (by omega) (by omega)]; omega
  refine va_copyi hF.1 hF.2.1 (hF.2.2.1.trans hl.1.symm) hF.2.2.2.1 (hts _ h1) (hts _ h2) (hts _ h3) (hts _ h4) hF.2.2.2.2.2.1 hP hD hS q0 q1 0 0 ha0 ha1 rfl rfl rfl (z _ b1) (z _ b2) (z _ b3) (by rw [jI_clamp b1, jI_clamp b3]; omega) (by rw [jI_clamp b2, jI_clamp b3]; omega) (fun i _ => rfl) hR.1 hR.2 hd (fun H1 locs1 hP1 hD1 hS1 => ?_)
  rw [jA_cpy b1 b2 b3] at hP1 hD1
  exact kk hF H1 locs1 ls hP1 hD1 hS1 hl
end
/-! a state's rows: one of them replaced -/
def jS (x : Nat → Int → Int) (k : Nat) (g : Int → Int) : Nat → Int → Int := fun i => cond (Nat.beq i k) g (x i)
theorem jS_at (x : Nat → Int → Int) (k : Nat) (g : Int → Int) : jS x k g k = g := by
  unfold jS; rw [Nat.beq_refl]; rfl
theorem jS_ne {x : Nat → Int → Int} {k i : Nat} {g : Int → Int} (h : i ≠ k) : jS x k g i = x i := by
  unfold jS
  cases hb : Nat.beq i k with
  | true => exact absurd (Nat.eq_of_beq_eq_true hb) h
  | false => rfl
abbrev wBelt (E : jE) (o a b c : Nat) (x y z : Int → Int) : va_W := [(o, .inr (0, [.ref a, .ref b, .ref c])), (a, .inl (E.2.1, 12, .inl (jA x))), (b, .inl (E.2.1, 12, .inl (jA y))), (c, .inl (E.2.1, 24, .inl (jA z)))]
abbrev wBook (E : jE) (o a b : Nat) (x y : Int → Int) (m : Int) : va_W := [(o, .inr (1, [.ref a, .ref b, .int (jI m)])), (a, .inl (E.2.1, 8, .inl (jA x))), (b, .inl (E.2.1, 8, .inl (jA y)))]
abbrev wBoxes (E : jE) (o a b : Nat) (x y : Int → Int) : va_W := [(o, .inr (2, [.ref a, .ref b])), (a, .inl (E.2.1, 5, .inl (jA x))), (b, .inl (E.2.1, 592, .inl (jA y)))]
abbrev wPad (E : jE) (o a b c : Nat) (x y z : Int → Int) (pl pp pk pn pt : Int) : va_W := [(o, .inr (4, [.ref a, .ref b, .ref c, .int (jI pl), .int (jI pp), .int (jI pk), .int (jI pn), .int (jI pt)])), (a, .inl (E.2.1, 60, .inl (jA x))), (b, .inl (E.2.1, 60, .inl (jA y))), (c, .inl (E.2.1, 60, .inl (jA z)))]
/-- a State: its rows 0 bounds, 1 lanes, 2 sizes, 3 grades, 4 apples of the cups, 5 sizes, 6 apples of the boxes, 7 settings, 8 watered, 9 the single numbers -/
abbrev wState (E : jE) (q : Nat → Nat) (x : Nat → Int → Int) : va_W := [(q 0, .inr (5, [.ref (q 1), .ref (q 4), .ref (q 8), .ref (q 11), .ref (q 12), .int (jI (x 9 1)), .int (jI (x 9 2)), .int (jI (x 9 3)), .int (jI (x 9 4)), .int (jI (x 9 5)), .int (jI (x 9 6))])), (q 1, .inr (1, [.ref (q 2), .ref (q 3), .int (jI (x 9 0))])), (q 2, .inl (E.2.1, 8, .inl (jA (x 0)))), (q 3, .inl (E.2.1, 8, .inl (jA (x 1)))), (q 4, .inr (0, [.ref (q 5), .ref (q 6), .ref (q 7)])), (q 5, .inl (E.2.1, 12, .inl (jA (x 2)))), (q 6, .inl (E.2.1, 12, .inl (jA (x 3)))), (q 7, .inl (E.2.1, 24, .inl (jA (x 4)))), (q 8, .inr (2, [.ref (q 9), .ref (q 10)])), (q 9, .inl (E.2.1, 5, .inl (jA (x 5)))), (q 10, .inl (E.2.1, 592, .inl (jA (x 6)))), (q 11, .inl (E.2.1, 3, .inl (jA (x 7)))), (q 12, .inl (E.2.2.1, 4, .inl (jA (x 8))))]
/-- the reference's object and its array: the object's other fields are fs -/
abbrev wMs (E : jE) (o a : Nat) (fs : List Value) (s : Int → Int) : va_W := [(o, .inr (7, .ref a :: fs)), (a, .inl (E.2.1, 1200, .inl (jA s)))]
/-- the reference where it reads texts: the object, the pad, what was read -/
abbrev wMr (E : jE) (o a b c d p r : Nat) (k0 k1 t sp mn : Int) (x y : Int → Int) : va_W := [(o, .inr (7, [.ref a, .ref b, .ref c, .ref d, .int (jI k0), .int (jI k1), .ref p, .int (jI t), .int (jI sp), .int (jI mn), .ref r])), (p, .inl (E.2.1, 60, .inl (jA x))), (r, .inl (E.2.1, 155, .inl (jA y)))]
/-- the reference: rows 0 s, 1 past, 2 kept, 3 spare, 4 pad, 5 read, 6 the single numbers: isKept, pasts, typed, spot, many -/
abbrev wModel (E : jE) (q : Nat → Nat) (f : Nat → Int → Int) : va_W := [(q 0, .inr (7, [.ref (q 1), .ref (q 2), .ref (q 3), .ref (q 4), .int (jI (f 6 0)), .int (jI (f 6 1)), .ref (q 5), .int (jI (f 6 2)), .int (jI (f 6 3)), .int (jI (f 6 4)), .ref (q 6)])), (q 1, .inl (E.2.1, 1200, .inl (jA (f 0)))), (q 2, .inl (E.2.1, 4800, .inl (jA (f 1)))), (q 3, .inl (E.2.1, 1200, .inl (jA (f 2)))), (q 4, .inl (E.2.1, 1200, .inl (jA (f 3)))), (q 5, .inl (E.2.1, 60, .inl (jA (f 4)))), (q 6, .inl (E.2.1, 155, .inl (jA (f 5))))]
def rmX0_init : Room := { frames := 1, cells := 0, slots := 0, locals := 14 }
abbrev mX0_init : jM := (cX0_init, wsX0_init, yX0_init.cls, 2, none, rmX0_init)
def rmX0_firstIn : Room := { frames := 0, cells := 0, slots := 0, locals := 0 }
abbrev mX0_firstIn : jM := (cX0_firstIn, wsX0_firstIn, yX0_firstIn.cls, 2, (some .int), rmX0_firstIn)
def rmX6_weight : Room := { frames := 0, cells := 0, slots := 0, locals := 0 }
abbrev mX6_weight : jM := (cX6_weight, wsX6_weight, yX6_weight.cls, 1, (some .int), rmX6_weight)
def rmX0_weightIn : Room := { frames := 1, cells := 0, slots := 0, locals := 20 }
abbrev mX0_weightIn : jM := (cX0_weightIn, wsX0_weightIn, yX0_weightIn.cls, 4, (some .int), rmX0_weightIn)
def rmX0_layBelowEye : Room := { frames := 0, cells := 0, slots := 0, locals := 0 }
abbrev mX0_layBelowEye : jM := (cX0_layBelowEye, wsX0_layBelowEye, yX0_layBelowEye.cls, 2, none, rmX0_layBelowEye)
def rmX0_clearCup : Room := { frames := 0, cells := 0, slots := 0, locals := 0 }
abbrev mX0_clearCup : jM := (cX0_clearCup, wsX0_clearCup, yX0_clearCup.cls, 2, none, rmX0_clearCup)
def rmX0_move : Room := { frames := 1, cells := 0, slots := 0, locals := 21 }
abbrev mX0_move : jM := (cX0_move, wsX0_move, yX0_move.cls, 2, none, rmX0_move)
def rmX0_apples : Room := { frames := 0, cells := 0, slots := 0, locals := 0 }
abbrev mX0_apples : jM := (cX0_apples, wsX0_apples, yX0_apples.cls, 3, (some .int), rmX0_apples)
def rmX0_doubles : Room := { frames := 0, cells := 0, slots := 0, locals := 0 }
abbrev mX0_doubles : jM := (cX0_doubles, wsX0_doubles, yX0_doubles.cls, 3, (some .int), rmX0_doubles)
def rmX0_copyFrom : Room := { frames := 1, cells := 0, slots := 0, locals := 22 }
abbrev mX0_copyFrom : jM := (cX0_copyFrom, wsX0_copyFrom, yX0_copyFrom.cls, 2, none, rmX0_copyFrom)
def rmX1_init : Room := { frames := 1, cells := 0, slots := 0, locals := 14 }
abbrev mX1_init : jM := (cX1_init, wsX1_init, yX1_init.cls, 1, none, rmX1_init)
def rmX1_has : Room := { frames := 0, cells := 0, slots := 0, locals := 0 }
abbrev mX1_has : jM := (cX1_has, wsX1_has, yX1_has.cls, 2, (some .boolean), rmX1_has)
def rmX1_insert : Room := { frames := 0, cells := 0, slots := 0, locals := 0 }
abbrev mX1_insert : jM := (cX1_insert, wsX1_insert, yX1_insert.cls, 5, none, rmX1_insert)
def rmX1_takeOut : Room := { frames := 1, cells := 0, slots := 0, locals := 21 }
abbrev mX1_takeOut : jM := (cX1_takeOut, wsX1_takeOut, yX1_takeOut.cls, 3, none, rmX1_takeOut)
def rmX6_red : Room := { frames := 0, cells := 0, slots := 0, locals := 0 }
abbrev mX6_red : jM := (cX6_red, wsX6_red, yX6_red.cls, 1, (some .int), rmX6_red)
def rmX6_bruise : Room := { frames := 0, cells := 0, slots := 0, locals := 0 }
abbrev mX6_bruise : jM := (cX6_bruise, wsX6_bruise, yX6_bruise.cls, 1, (some .int), rmX6_bruise)
def rmX6_shortOf : Room := { frames := 1, cells := 0, slots := 0, locals := 20 }
abbrev mX6_shortOf : jM := (cX6_shortOf, wsX6_shortOf, yX6_shortOf.cls, 3, (some .int), rmX6_shortOf)
def rmX1_laneFromFirst : Room := { frames := 2, cells := 0, slots := 0, locals := 42 }
abbrev mX1_laneFromFirst : jM := (cX1_laneFromFirst, wsX1_laneFromFirst, yX1_laneFromFirst.cls, 3, (some .int), rmX1_laneFromFirst)
def rmX1_laneFromLast : Room := { frames := 2, cells := 0, slots := 0, locals := 42 }
abbrev mX1_laneFromLast : jM := (cX1_laneFromLast, wsX1_laneFromLast, yX1_laneFromLast.cls, 4, (some .int), rmX1_laneFromLast)
def rmX1_isHidden : Room := { frames := 2, cells := 0, slots := 0, locals := 42 }
abbrev mX1_isHidden : jM := (cX1_isHidden, wsX1_isHidden, yX1_isHidden.cls, 3, (some .boolean), rmX1_isHidden)
def rmX1_copyFrom : Room := { frames := 1, cells := 0, slots := 0, locals := 22 }
abbrev mX1_copyFrom : jM := (cX1_copyFrom, wsX1_copyFrom, yX1_copyFrom.cls, 2, none, rmX1_copyFrom)
def rmX2_init : Room := { frames := 1, cells := 0, slots := 0, locals := 14 }
abbrev mX2_init : jM := (cX2_init, wsX2_init, yX2_init.cls, 1, none, rmX2_init)
def rmX2_appleAt : Room := { frames := 0, cells := 0, slots := 0, locals := 0 }
abbrev mX2_appleAt : jM := (cX2_appleAt, wsX2_appleAt, yX2_appleAt.cls, 3, (some .int), rmX2_appleAt)
def rmX2_put : Room := { frames := 0, cells := 0, slots := 0, locals := 0 }
abbrev mX2_put : jM := (cX2_put, wsX2_put, yX2_put.cls, 4, none, rmX2_put)
def rmX2_applesBelow : Room := { frames := 0, cells := 0, slots := 0, locals := 0 }
abbrev mX2_applesBelow : jM := (cX2_applesBelow, wsX2_applesBelow, yX2_applesBelow.cls, 4, (some .int), rmX2_applesBelow)
def rmX2_weightIn : Room := { frames := 1, cells := 0, slots := 0, locals := 22 }
abbrev mX2_weightIn : jM := (cX2_weightIn, wsX2_weightIn, yX2_weightIn.cls, 4, (some .int), rmX2_weightIn)
def rmX2_leastRed : Room := { frames := 1, cells := 0, slots := 0, locals := 22 }
abbrev mX2_leastRed : jM := (cX2_leastRed, wsX2_leastRed, yX2_leastRed.cls, 5, (some .int), rmX2_leastRed)
def rmX2_greatestBruise : Room := { frames := 1, cells := 0, slots := 0, locals := 22 }
abbrev mX2_greatestBruise : jM := (cX2_greatestBruise, wsX2_greatestBruise, yX2_greatestBruise.cls, 4, (some .int), rmX2_greatestBruise)
def rmX2_copyFrom : Room := { frames := 1, cells := 0, slots := 0, locals := 22 }
abbrev mX2_copyFrom : jM := (cX2_copyFrom, wsX2_copyFrom, yX2_copyFrom.cls, 2, none, rmX2_copyFrom)
def rmX5_init : Room := { frames := 2, cells := 0, slots := 0, locals := 35 }
abbrev mX5_init : jM := (cX5_init, wsX5_init, yX5_init.cls, 1, none, rmX5_init)
def rmX3_init : Room := { frames := 3, cells := 0, slots := 0, locals := 55 }
abbrev mX3_init : jM := (cX3_init, wsX3_init, yX3_init.cls, 2, none, rmX3_init)
def rmX5_copyFrom : Room := { frames := 2, cells := 0, slots := 0, locals := 43 }
abbrev mX5_copyFrom : jM := (cX5_copyFrom, wsX5_copyFrom, yX5_copyFrom.cls, 3, none, rmX5_copyFrom)
def rmX3_keep : Room := { frames := 3, cells := 0, slots := 0, locals := 65 }
abbrev mX3_keep : jM := (cX3_keep, wsX3_keep, yX3_keep.cls, 2, none, rmX3_keep)
def rmX4_init : Room := { frames := 1, cells := 0, slots := 0, locals := 14 }
abbrev mX4_init : jM := (cX4_init, wsX4_init, yX4_init.cls, 1, none, rmX4_init)
def rmX5_settingShown : Room := { frames := 0, cells := 0, slots := 0, locals := 0 }
abbrev mX5_settingShown : jM := (cX5_settingShown, wsX5_settingShown, yX5_settingShown.cls, 2, (some .int), rmX5_settingShown)
def rmX6_of : Room := { frames := 0, cells := 0, slots := 0, locals := 0 }
abbrev mX6_of : jM := (cX6_of, wsX6_of, yX6_of.cls, 3, (some .int), rmX6_of)
def rmX5_seen : Room := { frames := 1, cells := 0, slots := 0, locals := 22 }
abbrev mX5_seen : jM := (cX5_seen, wsX5_seen, yX5_seen.cls, 4, (some .int), rmX5_seen)
def rmX5_layApple : Room := { frames := 1, cells := 0, slots := 0, locals := 21 }
abbrev mX5_layApple : jM := (cX5_layApple, wsX5_layApple, yX5_layApple.cls, 2, none, rmX5_layApple)
def rmX5_emptyBox : Room := { frames := 0, cells := 0, slots := 0, locals := 0 }
abbrev mX5_emptyBox : jM := (cX5_emptyBox, wsX5_emptyBox, yX5_emptyBox.cls, 3, (some .int), rmX5_emptyBox)
def rmX5_gradeToCome : Room := { frames := 3, cells := 0, slots := 0, locals := 64 }
abbrev mX5_gradeToCome : jM := (cX5_gradeToCome, wsX5_gradeToCome, yX5_gradeToCome.cls, 1, (some .int), rmX5_gradeToCome)
def rmX5_gradeBelowEye : Room := { frames := 4, cells := 0, slots := 0, locals := 84 }
abbrev mX5_gradeBelowEye : jM := (cX5_gradeBelowEye, wsX5_gradeBelowEye, yX5_gradeBelowEye.cls, 1, none, rmX5_gradeBelowEye)
def rmX5_fallOut : Room := { frames := 1, cells := 0, slots := 0, locals := 23 }
abbrev mX5_fallOut : jM := (cX5_fallOut, wsX5_fallOut, yX5_fallOut.cls, 3, (some .int), rmX5_fallOut)
def rmX5_dropPlace : Room := { frames := 0, cells := 0, slots := 0, locals := 0 }
abbrev mX5_dropPlace : jM := (cX5_dropPlace, wsX5_dropPlace, yX5_dropPlace.cls, 2, (some .int), rmX5_dropPlace)
def rmX5_dropInto : Room := { frames := 1, cells := 0, slots := 0, locals := 23 }
abbrev mX5_dropInto : jM := (cX5_dropInto, wsX5_dropInto, yX5_dropInto.cls, 4, (some .int), rmX5_dropInto)
def rmX5_tick : Room := { frames := 5, cells := 0, slots := 0, locals := 104 }
abbrev mX5_tick : jM := (cX5_tick, wsX5_tick, yX5_tick.cls, 3, (some .int), rmX5_tick)
def rmX5_ticksToFall : Room := { frames := 4, cells := 0, slots := 0, locals := 84 }
abbrev mX5_ticksToFall : jM := (cX5_ticksToFall, wsX5_ticksToFall, yX5_ticksToFall.cls, 3, (some .int), rmX5_ticksToFall)
def rmX5_isWrong : Room := { frames := 3, cells := 0, slots := 0, locals := 64 }
abbrev mX5_isWrong : jM := (cX5_isWrong, wsX5_isWrong, yX5_isWrong.cls, 3, (some .boolean), rmX5_isWrong)
def rmX5_wrongIn : Room := { frames := 4, cells := 0, slots := 0, locals := 86 }
abbrev mX5_wrongIn : jM := (cX5_wrongIn, wsX5_wrongIn, yX5_wrongIn.cls, 4, (some .int), rmX5_wrongIn)
def rmX5_wrongInAll : Room := { frames := 5, cells := 0, slots := 0, locals := 109 }
abbrev mX5_wrongInAll : jM := (cX5_wrongInAll, wsX5_wrongInAll, yX5_wrongInAll.cls, 3, (some .int), rmX5_wrongInAll)
def rmX6_inRange : Room := { frames := 0, cells := 0, slots := 0, locals := 0 }
abbrev mX6_inRange : jM := (cX6_inRange, wsX6_inRange, yX6_inRange.cls, 3, (some .boolean), rmX6_inRange)
def rmX7_init : Room := { frames := 4, cells := 0, slots := 0, locals := 76 }
abbrev mX7_init : jM := (cX7_init, wsX7_init, yX7_init.cls, 1, none, rmX7_init)
def rmX7_lay : Room := { frames := 4, cells := 0, slots := 0, locals := 86 }
abbrev mX7_lay : jM := (cX7_lay, wsX7_lay, yX7_lay.cls, 4, (some .int), rmX7_lay)
def rmX7_pass : Room := { frames := 6, cells := 0, slots := 0, locals := 126 }
abbrev mX7_pass : jM := (cX7_pass, wsX7_pass, yX7_pass.cls, 4, (some .int), rmX7_pass)
def rmX7_isLane : Room := { frames := 0, cells := 0, slots := 0, locals := 0 }
abbrev mX7_isLane : jM := (cX7_isLane, wsX7_isLane, yX7_isLane.cls, 1, (some .boolean), rmX7_isLane)
def rmX7_rule : Room := { frames := 4, cells := 0, slots := 0, locals := 86 }
abbrev mX7_rule : jM := (cX7_rule, wsX7_rule, yX7_rule.cls, 6, (some .int), rmX7_rule)
def rmX7_drop : Room := { frames := 4, cells := 0, slots := 0, locals := 86 }
abbrev mX7_drop : jM := (cX7_drop, wsX7_drop, yX7_drop.cls, 2, (some .int), rmX7_drop)
def rmX7_water : Room := { frames := 4, cells := 0, slots := 0, locals := 86 }
abbrev mX7_water : jM := (cX7_water, wsX7_water, yX7_water.cls, 2, (some .int), rmX7_water)
def rmX7_isBox : Room := { frames := 0, cells := 0, slots := 0, locals := 0 }
abbrev mX7_isBox : jM := (cX7_isBox, wsX7_isBox, yX7_isBox.cls, 1, (some .boolean), rmX7_isBox)
def rmX7_empty : Room := { frames := 4, cells := 0, slots := 0, locals := 86 }
abbrev mX7_empty : jM := (cX7_empty, wsX7_empty, yX7_empty.cls, 2, (some .int), rmX7_empty)
def rmX7_set : Room := { frames := 4, cells := 0, slots := 0, locals := 86 }
abbrev mX7_set : jM := (cX7_set, wsX7_set, yX7_set.cls, 4, (some .int), rmX7_set)
def rmX7_cup : Room := { frames := 5, cells := 0, slots := 0, locals := 106 }
abbrev mX7_cup : jM := (cX7_cup, wsX7_cup, yX7_cup.cls, 3, (some .int), rmX7_cup)
def rmX7_apple : Room := { frames := 4, cells := 0, slots := 0, locals := 86 }
abbrev mX7_apple : jM := (cX7_apple, wsX7_apple, yX7_apple.cls, 5, (some .int), rmX7_apple)
def rmX7_box : Room := { frames := 5, cells := 0, slots := 0, locals := 109 }
abbrev mX7_box : jM := (cX7_box, wsX7_box, yX7_box.cls, 3, (some .int), rmX7_box)
def rmX7_ruleOf : Room := { frames := 3, cells := 0, slots := 0, locals := 64 }
abbrev mX7_ruleOf : jM := (cX7_ruleOf, wsX7_ruleOf, yX7_ruleOf.cls, 4, (some .int), rmX7_ruleOf)
def rmX7_lane : Room := { frames := 3, cells := 0, slots := 0, locals := 65 }
abbrev mX7_lane : jM := (cX7_lane, wsX7_lane, yX7_lane.cls, 6, (some .int), rmX7_lane)
def rmX7_misses : Room := { frames := 2, cells := 0, slots := 0, locals := 45 }
abbrev mX7_misses : jM := (cX7_misses, wsX7_misses, yX7_misses.cls, 5, (some .int), rmX7_misses)
def rmX7_count : Room := { frames := 6, cells := 0, slots := 0, locals := 131 }
abbrev mX7_count : jM := (cX7_count, wsX7_count, yX7_count.cls, 2, (some .int), rmX7_count)
def rmX7_right : Room := { frames := 6, cells := 0, slots := 0, locals := 131 }
abbrev mX7_right : jM := (cX7_right, wsX7_right, yX7_right.cls, 2, (some .double), rmX7_right)
def rmL_cell : Room := { frames := 0, cells := 0, slots := 0, locals := 0 }
abbrev mL_cell : jM := (cL_cell, wsL_cell, yL_cell.cls, 2, (some .int), rmL_cell)
def rmL_pack : Room := { frames := 0, cells := 0, slots := 0, locals := 0 }
abbrev mL_pack : jM := (cL_pack, wsL_pack, yL_pack.cls, 3, (some .int), rmL_pack)
def rmL_look : Room := { frames := 1, cells := 0, slots := 0, locals := 22 }
abbrev mL_look : jM := (cL_look, wsL_look, yL_look.cls, 3, (some .int), rmL_look)
def rmL_why : Room := { frames := 0, cells := 0, slots := 0, locals := 0 }
abbrev mL_why : jM := (cL_why, wsL_why, yL_why.cls, 4, (some .int), rmL_why)
def rmL_lane : Room := { frames := 1, cells := 0, slots := 0, locals := 23 }
abbrev mL_lane : jM := (cL_lane, wsL_lane, yL_lane.cls, 5, (some .int), rmL_lane)
def rmL_tick : Room := { frames := 2, cells := 0, slots := 0, locals := 47 }
abbrev mL_tick : jM := (cL_tick, wsL_tick, yL_tick.cls, 9, (some .int), rmL_tick)
def rmL_ticks : Room := { frames := 2, cells := 0, slots := 0, locals := 47 }
abbrev mL_ticks : jM := (cL_ticks, wsL_ticks, yL_ticks.cls, 5, (some .int), rmL_ticks)
def rmL_isBelt : Room := { frames := 7, cells := 0, slots := 0, locals := 152 }
abbrev mL_isBelt : jM := (cL_isBelt, wsL_isBelt, yL_isBelt.cls, 10, (some .boolean), rmL_isBelt)
def rmL_areBoxes : Room := { frames := 7, cells := 0, slots := 0, locals := 152 }
abbrev mL_areBoxes : jM := (cL_areBoxes, wsL_areBoxes, yL_areBoxes.cls, 16, (some .boolean), rmL_areBoxes)
def rmL_areTold : Room := { frames := 7, cells := 0, slots := 0, locals := 152 }
abbrev mL_areTold : jM := (cL_areTold, wsL_areTold, yL_areTold.cls, 12, (some .boolean), rmL_areTold)
def rmL_isRule : Room := { frames := 5, cells := 0, slots := 0, locals := 111 }
abbrev mL_isRule : jM := (cL_isRule, wsL_isRule, yL_isRule.cls, 10, (some .boolean), rmL_isRule)
def rmL_isSet : Room := { frames := 5, cells := 0, slots := 0, locals := 109 }
abbrev mL_isSet : jM := (cL_isSet, wsL_isSet, yL_isSet.cls, 6, (some .boolean), rmL_isSet)
def rmL_isActed : Room := { frames := 7, cells := 0, slots := 0, locals := 149 }
abbrev mL_isActed : jM := (cL_isActed, wsL_isActed, yL_isActed.cls, 14, (some .boolean), rmL_isActed)
