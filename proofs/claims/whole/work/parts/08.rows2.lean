def jMax (a b : Int) : Int := if a < b then b else a
def jMin (a b : Int) : Int := if b < a then b else a
/-- n places of f from sp on, laid into g from dp on -/
def jCp (f g : Int → Int) (sp dp n : Int) : Int → Int := fun j => if dp ≤ j ∧ j < dp + n then f (sp + (j - dp)) else g j
theorem jA_cpy {f g : Int → Int} {sp dp n : Int} (h1 : 0 ≤ sp ∧ sp < 2147483648) (h2 : 0 ≤ dp ∧ dp < 2147483648) (h3 : 0 ≤ n ∧ n < 2147483648) : va_cpy (jA f) (jA g) (jI sp).toNatClampNeg (jI dp).toNatClampNeg (jI n).toNatClampNeg = jA (jCp f g sp dp n) := by
  rw [jI_clamp h1, jI_clamp h2, jI_clamp h3]
  funext j
  show (if dp.toNat ≤ j ∧ j < dp.toNat + n.toNat then jI (f ((sp.toNat + (j - dp.toNat) : Nat) : Int)) else jI (g j)) = jI (if dp ≤ (j : Int) ∧ (j : Int) < dp + n then f (sp + ((j : Int) - dp)) else g j)
  by_cases hj : dp.toNat ≤ j ∧ j < dp.toNat + n.toNat
  · rw [if_pos hj, if_pos (by omega)]
    congr 2
    omega
  · rw [if_neg hj, if_neg (by omega)]
section
variable {M : jM} {E : jE} {C : jC} {Q : State → Prop} {k n pc : Nat} {L : List (Nat × Value)} {S : List Value} {w : va_W}
theorem j_mmax {index : Nat} {a b : Int} (pc' : Nat) (h1 : (.methodLink M.2.2.1 index Lib.Math.max.name : Cond) ∈ M.2.1) (h2 : (.static Lib.Math.max.name : Cond) ∈ M.2.1) (h3 : (.initialized "java/lang/Math" : Cond) ∈ M.2.1) (h4 : (.code Lib.Math.max.name Lib.Math.max.code 2 (some .int) : Cond) ∈ M.2.1) (hR : 1 ≤ M.2.2.2.2.2.frames ∧ (S.map fun v => v.category).sum + 13 ≤ M.2.2.2.2.2.locals) (hcap : k ≤ M.2.2.2.2.2.cells ∧ n ≤ M.2.2.2.2.2.slots) (hd : decode M.1 pc = .ok (.invokestatic index, 3)) (hn : pc + 3 = pc') (ha : -2147483648 ≤ a ∧ a < 2147483648) (hb : -2147483648 ≤ b ∧ b < 2147483648) (kk : jG M E C Q k n pc' L (.int (jI (jMax a b)) :: S) w) : jG M E C Q k n pc L (.int (jI b) :: .int (jI a) :: S) w := by
  subst hn
  intro hF H locs ls hP hD hS hl
  have hts := hF.2.2.2.2.1
  refine va_mmax hF.1 hF.2.1 (hF.2.2.1.trans hl.1.symm) hF.2.2.2.1 (hts _ h1) (hts _ h2) (hts _ h3) (hts _ h4) hR.1 hR.2 hcap.1 hcap.2 hd ?_
  have e : (if jI a < jI b then jI b else jI a) = jI (jMax a b) := by
    unfold jMax
    by_cases h : a < b
    · rw [if_pos ((jI_lt ha hb).mpr h), if_pos h]
    · rw [if_neg (fun q => h ((jI_lt ha hb).mp q)), if_neg h]
  rw [e]
  exact kk hF H locs ls hP hD hS hl
theorem j_mmin {index : Nat} {a b : Int} (pc' : Nat) (h1 : (.methodLink M.2.2.1 index Lib.Math.min.name : Cond) ∈ M.2.1) (h2 : (.static Lib.Math.min.name : Cond) ∈ M.2.1) (h3 : (.initialized "java/lang/Math" : Cond) ∈ M.2.1) (h4 : (.code Lib.Math.min.name Lib.Math.min.code 2 (some .int) : Cond) ∈ M.2.1) (hR : 1 ≤ M.2.2.2.2.2.frames ∧ (S.map fun v => v.category).sum + 13 ≤ M.2.2.2.2.2.locals) (hcap : k ≤ M.2.2.2.2.2.cells ∧ n ≤ M.2.2.2.2.2.slots) (hd : decode M.1 pc = .ok (.invokestatic index, 3)) (hn : pc + 3 = pc') (ha : -2147483648 ≤ a ∧ a < 2147483648) (hb : -2147483648 ≤ b ∧ b < 2147483648) (kk : jG M E C Q k n pc' L (.int (jI (jMin a b)) :: S) w) : jG M E C Q k n pc L (.int (jI b) :: .int (jI a) :: S) w := by
  subst hn
  intro hF H locs ls hP hD hS hl
  have hts := hF.2.2.2.2.1
  refine va_mmin hF.1 hF.2.1 (hF.2.2.1.trans hl.1.symm) hF.2.2.2.1 (hts _ h1) (hts _ h2) (hts _ h3) (hts _ h4) hR.1 hR.2 hcap.1 hcap.2 hd ?_
  have e : (if jI b < jI a then jI b else jI a) = jI (jMin a b) := by
    unfold jMin
    by_cases h : b < a
    · rw [if_pos ((jI_lt hb ha).mpr h), if_pos h]
    · rw [if_neg (fun q => h ((jI_lt hb ha).mp q)), if_neg h]
  rw [e]
  exact kk hF H locs ls hP hD hS hl
/-- System.arraycopy of ints -/
theorem j_copyi {index a a0 n0 n1 : Nat} {f g : Int → Int} {sp dp cn : Int} (q0 q1 pc' : Nat) (w' : va_W) (h1 : (.methodLink M.2.2.1 index arraycopyName : Cond) ∈ M.2.1) (h2 : (.native arraycopyName : Cond) ∈ M.2.1) (h3 : (.static arraycopyName : Cond) ∈ M.2.1) (h4 : (.initialized "java/lang/System" : Cond) ∈ M.2.1) (hR : 1 ≤ M.2.2.2.2.2.frames ∧ (S.map fun v => v.category).sum + (nativeFrameWords "java/lang/System" "arraycopy" 5 + 11) ≤ M.2.2.2.2.2.locals) (hd : decode M.1 pc = .ok (.invokestatic index, 3)) (hn : pc + 3 = pc') (ha0 : w[q0]? = some (a0, .inl (E.2.1, n0, .inl (jA f)))) (ha1 : w[q1]? = some (a, .inl (E.2.1, n1, .inl (jA g)))) (hA : n0 < 2147483648 ∧ n1 < 2147483648) (hi : 0 ≤ sp ∧ 0 ≤ dp ∧ 0 ≤ cn ∧ sp + cn ≤ (n0 : Int) ∧ dp + cn ≤ (n1 : Int)) (hw : w.set q1 (a, .inl (E.2.1, n1, .inl (jA (jCp f g sp dp cn)))) = w') (kk : jG M E C Q k n pc' L S w') : jG M E C Q k n pc L (.int (jI cn) :: .int (jI dp) :: .ref a :: .int (jI sp) :: .ref a0 :: S) w := by
  subst hn; subst hw
  intro hF H locs ls hP hD hS hl
  have hts := hF.2.2.2.2.1
  have b1 : 0 ≤ sp ∧ sp < 2147483648 := by omega
  have b2 : 0 ≤ dp ∧ dp < 2147483648 := by omega
  have b3 : 0 ≤ cn ∧ cn < 2147483648 := by omega
  have z : ∀ x : Int, 0 ≤ x ∧ x < 2147483648 → ¬ jI x < 0 := fun x hx => by
    rw [jI_0, jI_lt (by omega) (by omega)]; omega
  refine va_copyi hF.1 hF.2.1 (hF.2.2.1.trans hl.1.symm) hF.2.2.2.1 (hts _ h1) (hts _ h2) (hts _ h3) (hts _ h4) hF.2.2.2.2.2.1 hP hD hS q0 q1 0 0 ha0 ha1 rfl rfl rfl (z _ b1) (z _ b2) (z _ b3) (by rw [jI_clamp b1, jI_clamp b3]; omega) (by rw [jI_clamp b2, jI_clamp b3]; omega) (fun i _ => rfl) hR.1 hR.2 hd (fun H1 locs1 hP1 hD1 hS1 => ?_)
  rw [jA_cpy b1 b2 b3] at hP1 hD1
  exact kk hF H1 locs1 ls hP1 hD1 hS1 hl
end
/-! a state's rows: one of them replaced -/
def jS (x : Nat → Int → Int) (k : Nat) (g : Int → Int) : Nat → Int → Int := fun i => cond (Nat.beq i k) g (x i)
theorem jS_at (x : Nat → Int → Int) (k : Nat) (g : Int → Int) : jS x k g k = g := by
  unfold jS; rw [Nat.beq_refl]; rfl
theorem jS_ne {x : Nat → Int → Int} {k i : Nat} {g : Int → Int} (h : i ≠ k) : jS x k g i = x i := by
  unfold jS
  cases hb : Nat.beq i k with
  | true => exact absurd (Nat.eq_of_beq_eq_true hb) h
  | false => rfl
abbrev wBelt (E : jE) (o a b c : Nat) (x y z : Int → Int) : va_W := [(o, .inr (0, [.ref a, .ref b, .ref c])), (a, .inl (E.2.1, 12, .inl (jA x))), (b, .inl (E.2.1, 12, .inl (jA y))), (c, .inl (E.2.1, 24, .inl (jA z)))]
abbrev wBook (E : jE) (o a b : Nat) (x y : Int → Int) (m : Int) : va_W := [(o, .inr (1, [.ref a, .ref b, .int (jI m)])), (a, .inl (E.2.1, 8, .inl (jA x))), (b, .inl (E.2.1, 8, .inl (jA y)))]
abbrev wBoxes (E : jE) (o a b : Nat) (x y : Int → Int) : va_W := [(o, .inr (2, [.ref a, .ref b])), (a, .inl (E.2.1, 5, .inl (jA x))), (b, .inl (E.2.1, 592, .inl (jA y)))]
abbrev wPad (E : jE) (o a b c : Nat) (x y z : Int → Int) (pl pp pk pn pt : Int) : va_W := [(o, .inr (4, [.ref a, .ref b, .ref c, .int (jI pl), .int (jI pp), .int (jI pk), .int (jI pn), .int (jI pt)])), (a, .inl (E.2.1, 60, .inl (jA x))), (b, .inl (E.2.1, 60, .inl (jA y))), (c, .inl (E.2.1, 60, .inl (jA z)))]
/-- a State: its rows 0 bounds, 1 lanes, 2 sizes, 3 grades, 4 apples of the cups, 5 sizes, 6 apples of the boxes, 7 settings, 8 watered, 9 the single numbers -/
abbrev wState (E : jE) (q : Nat → Nat) (x : Nat → Int → Int) : va_W := [(q 0, .inr (5, [.ref (q 1), .ref (q 4), .ref (q 8), .ref (q 11), .ref (q 12), .int (jI (x 9 1)), .int (jI (x 9 2)), .int (jI (x 9 3)), .int (jI (x 9 4)), .int (jI (x 9 5)), .int (jI (x 9 6))])), (q 1, .inr (1, [.ref (q 2), .ref (q 3), .int (jI (x 9 0))])), (q 2, .inl (E.2.1, 8, .inl (jA (x 0)))), (q 3, .inl (E.2.1, 8, .inl (jA (x 1)))), (q 4, .inr (0, [.ref (q 5), .ref (q 6), .ref (q 7)])), (q 5, .inl (E.2.1, 12, .inl (jA (x 2)))), (q 6, .inl (E.2.1, 12, .inl (jA (x 3)))), (q 7, .inl (E.2.1, 24, .inl (jA (x 4)))), (q 8, .inr (2, [.ref (q 9), .ref (q 10)])), (q 9, .inl (E.2.1, 5, .inl (jA (x 5)))), (q 10, .inl (E.2.1, 592, .inl (jA (x 6)))), (q 11, .inl (E.2.1, 3, .inl (jA (x 7)))), (q 12, .inl (E.2.2.1, 4, .inl (jA (x 8))))]
/-- the reference's object and its array: the object's other fields are fs -/
abbrev wMs (E : jE) (o a : Nat) (fs : List Value) (s : Int → Int) : va_W := [(o, .inr (7, .ref a :: fs)), (a, .inl (E.2.1, 1200, .inl (jA s)))]
/-- the reference where it reads texts: the object, the pad, what was read -/
abbrev wMr (E : jE) (o a b c d p r : Nat) (k0 k1 t sp mn : Int) (x y : Int → Int) : va_W := [(o, .inr (7, [.ref a, .ref b, .ref c, .ref d, .int (jI k0), .int (jI k1), .ref p, .int (jI t), .int (jI sp), .int (jI mn), .ref r])), (p, .inl (E.2.1, 60, .inl (jA x))), (r, .inl (E.2.1, 155, .inl (jA y)))]
/-- the reference: rows 0 s, 1 past, 2 kept, 3 spare, 4 pad, 5 read, 6 the single numbers: isKept, pasts, typed, spot, many -/
abbrev wModel (E : jE) (q : Nat → Nat) (f : Nat → Int → Int) : va_W := [(q 0, .inr (7, [.ref (q 1), .ref (q 2), .ref (q 3), .ref (q 4), .int (jI (f 6 0)), .int (jI (f 6 1)), .ref (q 5), .int (jI (f 6 2)), .int (jI (f 6 3)), .int (jI (f 6 4)), .ref (q 6)])), (q 1, .inl (E.2.1, 1200, .inl (jA (f 0)))), (q 2, .inl (E.2.1, 4800, .inl (jA (f 1)))), (q 3, .inl (E.2.1, 1200, .inl (jA (f 2)))), (q 4, .inl (E.2.1, 1200, .inl (jA (f 3)))), (q 5, .inl (E.2.1, 60, .inl (jA (f 4)))), (q 6, .inl (E.2.1, 155, .inl (jA (f 5))))]
def rmX0_init : Room := { frames := 1, cells := 0, slots := 0, locals := 14 }
abbrev mX0_init : jM := (cX0_init, wsX0_init, yX0_init.cls, 2, none, rmX0_init)
def rmX0_firstIn : Room := { frames := 0, cells := 0, slots := 0, locals := 0 }
abbrev mX0_firstIn : jM := (cX0_firstIn, wsX0_firstIn, yX0_firstIn.cls, 2, (some .int), rmX0_firstIn)
def rmX6_weight : Room := { frames := 0, cells := 0, slots := 0, locals := 0 }
abbrev mX6_weight : jM := (cX6_weight, wsX6_weight, yX6_weight.cls, 1, (some .int), rmX6_weight)
def rmX0_weightIn : Room := { frames := 1, cells := 0, slots := 0, locals := 20 }
abbrev mX0_weightIn : jM := (cX0_weightIn, wsX0_weightIn, yX0_weightIn.cls, 4, (some .int), rmX0_weightIn)
def rmX0_layBelowEye : Room := { frames := 0, cells := 0, slots := 0, locals := 0 }
abbrev mX0_layBelowEye : jM := (cX0_layBelowEye, wsX0_layBelowEye, yX0_layBelowEye.cls, 2, none, rmX0_layBelowEye)
def rmX0_clearCup : Room := { frames := 0, cells := 0, slots := 0, locals := 0 }
abbrev mX0_clearCup : jM := (cX0_clearCup, wsX0_clearCup, yX0_clearCup.cls, 2, none, rmX0_clearCup)
def rmX0_move : Room := { frames := 1, cells := 0, slots := 0, locals := 21 }
abbrev mX0_move : jM := (cX0_move, wsX0_move, yX0_move.cls, 2, none, rmX0_move)
def rmX0_apples : Room := { frames := 0, cells := 0, slots := 0, locals := 0 }
abbrev mX0_apples : jM := (cX0_apples, wsX0_apples, yX0_apples.cls, 3, (some .int), rmX0_apples)
def rmX0_doubles : Room := { frames := 0, cells := 0, slots := 0, locals := 0 }
abbrev mX0_doubles : jM := (cX0_doubles, wsX0_doubles, yX0_doubles.cls, 3, (some .int), rmX0_doubles)
def rmX0_copyFrom : Room := { frames := 1, cells := 0, slots := 0, locals := 22 }
abbrev mX0_copyFrom : jM := (cX0_copyFrom, wsX0_copyFrom, yX0_copyFrom.cls, 2, none, rmX0_copyFrom)
def rmX1_init : Room := { frames := 1, cells := 0, slots := 0, locals := 14 }
abbrev mX1_init : jM := (cX1_init, wsX1_init, yX1_init.cls, 1, none, rmX1_init)
def rmX1_has : Room := { frames := 0, cells := 0, slots := 0, locals := 0 }
abbrev mX1_has : jM := (cX1_has, wsX1_has, yX1_has.cls, 2, (some .boolean), rmX1_has)
def rmX1_insert : Room := { frames := 0, cells := 0, slots := 0, locals := 0 }
abbrev mX1_insert : jM := (cX1_insert, wsX1_insert, yX1_insert.cls, 5, none, rmX1_insert)
def rmX1_takeOut : Room := { frames := 1, cells := 0, slots := 0, locals := 21 }
abbrev mX1_takeOut : jM := (cX1_takeOut, wsX1_takeOut, yX1_takeOut.cls, 3, none, rmX1_takeOut)
def rmX6_red : Room := { frames := 0, cells := 0, slots := 0, locals := 0 }
abbrev mX6_red : jM := (cX6_red, wsX6_red, yX6_red.cls, 1, (some .int), rmX6_red)
def rmX6_bruise : Room := { frames := 0, cells := 0, slots := 0, locals := 0 }
abbrev mX6_bruise : jM := (cX6_bruise, wsX6_bruise, yX6_bruise.cls, 1, (some .int), rmX6_bruise)
def rmX6_shortOf : Room := { frames := 1, cells := 0, slots := 0, locals := 20 }
abbrev mX6_shortOf : jM := (cX6_shortOf, wsX6_shortOf, yX6_shortOf.cls, 3, (some .int), rmX6_shortOf)
def rmX1_laneFromFirst : Room := { frames := 2, cells := 0, slots := 0, locals := 42 }
abbrev mX1_laneFromFirst : jM := (cX1_laneFromFirst, wsX1_laneFromFirst, yX1_laneFromFirst.cls, 3, (some .int), rmX1_laneFromFirst)
def rmX1_laneFromLast : Room := { frames := 2, cells := 0, slots := 0, locals := 42 }
abbrev mX1_laneFromLast : jM := (cX1_laneFromLast, wsX1_laneFromLast, yX1_laneFromLast.cls, 4, (some .int), rmX1_laneFromLast)
def rmX1_isHidden : Room := { frames := 2, cells := 0, slots := 0, locals := 42 }
abbrev mX1_isHidden : jM := (cX1_isHidden, wsX1_isHidden, yX1_isHidden.cls, 3, (some .boolean), rmX1_isHidden)
def rmX1_copyFrom : Room := { frames := 1, cells := 0, slots := 0, locals := 22 }
abbrev mX1_copyFrom : jM := (cX1_copyFrom, wsX1_copyFrom, yX1_copyFrom.cls, 2, none, rmX1_copyFrom)
def rmX2_init : Room := { frames := 1, cells := 0, slots := 0, locals := 14 }
abbrev mX2_init : jM := (cX2_init, wsX2_init, yX2_init.cls, 1, none, rmX2_init)
def rmX2_appleAt : Room := { frames := 0, cells := 0, slots := 0, locals := 0 }
abbrev mX2_appleAt : jM := (cX2_appleAt, wsX2_appleAt, yX2_appleAt.cls, 3, (some .int), rmX2_appleAt)
def rmX2_put : Room := { frames := 0, cells := 0, slots := 0, locals := 0 }
abbrev mX2_put : jM := (cX2_put, wsX2_put, yX2_put.cls, 4, none, rmX2_put)
def rmX2_applesBelow : Room := { frames := 0, cells := 0, slots := 0, locals := 0 }
abbrev mX2_applesBelow : jM := (cX2_applesBelow, wsX2_applesBelow, yX2_applesBelow.cls, 4, (some .int), rmX2_applesBelow)
def rmX2_weightIn : Room := { frames := 1, cells := 0, slots := 0, locals := 22 }
abbrev mX2_weightIn : jM := (cX2_weightIn, wsX2_weightIn, yX2_weightIn.cls, 4, (some .int), rmX2_weightIn)
def rmX2_leastRed : Room := { frames := 1, cells := 0, slots := 0, locals := 22 }
abbrev mX2_leastRed : jM := (cX2_leastRed, wsX2_leastRed, yX2_leastRed.cls, 5, (some .int), rmX2_leastRed)
def rmX2_greatestBruise : Room := { frames := 1, cells := 0, slots := 0, locals := 22 }
abbrev mX2_greatestBruise : jM := (cX2_greatestBruise, wsX2_greatestBruise, yX2_greatestBruise.cls, 4, (some .int), rmX2_greatestBruise)
def rmX2_copyFrom : Room := { frames := 1, cells := 0, slots := 0, locals := 22 }
abbrev mX2_copyFrom : jM := (cX2_copyFrom, wsX2_copyFrom, yX2_copyFrom.cls, 2, none, rmX2_copyFrom)
def rmX5_init : Room := { frames := 2, cells := 0, slots := 0, locals := 35 }
abbrev mX5_init : jM := (cX5_init, wsX5_init, yX5_init.cls, 1, none, rmX5_init)
def rmX3_init : Room := { frames := 3, cells := 0, slots := 0, locals := 55 }
abbrev mX3_init : jM := (cX3_init, wsX3_init, yX3_init.cls, 2, none, rmX3_init)
def rmX5_copyFrom : Room := { frames := 2, cells := 0, slots := 0, locals := 43 }
abbrev mX5_copyFrom : jM := (cX5_copyFrom, wsX5_copyFrom, yX5_copyFrom.cls, 3, none, rmX5_copyFrom)
def rmX3_keep : Room := { frames := 3, cells := 0, slots := 0, locals := 65 }
abbrev mX3_keep : jM := (cX3_keep, wsX3_keep, yX3_keep.cls, 2, none, rmX3_keep)
def rmX3_giveBack : Room := { frames := 3, cells := 0, slots := 0, locals := 65 }
abbrev mX3_giveBack : jM := (cX3_giveBack, wsX3_giveBack, yX3_giveBack.cls, 2, none, rmX3_giveBack)
def rmX4_init : Room := { frames := 1, cells := 0, slots := 0, locals := 14 }
abbrev mX4_init : jM := (cX4_init, wsX4_init, yX4_init.cls, 1, none, rmX4_init)
def rmX4_write : Room := { frames := 0, cells := 0, slots := 0, locals := 0 }
abbrev mX4_write : jM := (cX4_write, wsX4_write, yX4_write.cls, 2, none, rmX4_write)
def rmX4_startReading : Room := { frames := 0, cells := 0, slots := 0, locals := 0 }
abbrev mX4_startReading : jM := (cX4_startReading, wsX4_startReading, yX4_startReading.cls, 1, none, rmX4_startReading)
def rmX4_take : Room := { frames := 0, cells := 0, slots := 0, locals := 0 }
abbrev mX4_take : jM := (cX4_take, wsX4_take, yX4_take.cls, 2, (some .boolean), rmX4_take)
def rmX4_readKind : Room := { frames := 1, cells := 0, slots := 0, locals := 21 }
abbrev mX4_readKind : jM := (cX4_readKind, wsX4_readKind, yX4_readKind.cls, 2, (some .int), rmX4_readKind)
def rmX4_leadsInto : Room := { frames := 0, cells := 0, slots := 0, locals := 0 }
abbrev mX4_leadsInto : jM := (cX4_leadsInto, wsX4_leadsInto, yX4_leadsInto.cls, 6, (some .boolean), rmX4_leadsInto)
def rmX4_readNumber : Room := { frames := 1, cells := 0, slots := 0, locals := 25 }
abbrev mX4_readNumber : jM := (cX4_readNumber, wsX4_readNumber, yX4_readNumber.cls, 6, (some .boolean), rmX4_readNumber)
def rmX6_of : Room := { frames := 0, cells := 0, slots := 0, locals := 0 }
abbrev mX6_of : jM := (cX6_of, wsX6_of, yX6_of.cls, 3, (some .int), rmX6_of)
def rmX4_readTraits : Room := { frames := 2, cells := 0, slots := 0, locals := 50 }
abbrev mX4_readTraits : jM := (cX4_readTraits, wsX4_readTraits, yX4_readTraits.cls, 3, (some .boolean), rmX4_readTraits)
def rmX4_addPart : Room := { frames := 0, cells := 0, slots := 0, locals := 0 }
abbrev mX4_addPart : jM := (cX4_addPart, wsX4_addPart, yX4_addPart.cls, 2, none, rmX4_addPart)
def rmX4_readApples : Room := { frames := 3, cells := 0, slots := 0, locals := 72 }
abbrev mX4_readApples : jM := (cX4_readApples, wsX4_readApples, yX4_readApples.cls, 4, (some .boolean), rmX4_readApples)
def rmX4_readRules : Room := { frames := 3, cells := 0, slots := 0, locals := 72 }
abbrev mX4_readRules : jM := (cX4_readRules, wsX4_readRules, yX4_readRules.cls, 2, (some .boolean), rmX4_readRules)
def rmX5_settingShown : Room := { frames := 0, cells := 0, slots := 0, locals := 0 }
abbrev mX5_settingShown : jM := (cX5_settingShown, wsX5_settingShown, yX5_settingShown.cls, 2, (some .int), rmX5_settingShown)
def rmX5_seen : Room := { frames := 1, cells := 0, slots := 0, locals := 22 }
abbrev mX5_seen : jM := (cX5_seen, wsX5_seen, yX5_seen.cls, 4, (some .int), rmX5_seen)
def rmX5_layApple : Room := { frames := 1, cells := 0, slots := 0, locals := 21 }
abbrev mX5_layApple : jM := (cX5_layApple, wsX5_layApple, yX5_layApple.cls, 2, none, rmX5_layApple)
def rmX5_emptyBox : Room := { frames := 0, cells := 0, slots := 0, locals := 0 }
abbrev mX5_emptyBox : jM := (cX5_emptyBox, wsX5_emptyBox, yX5_emptyBox.cls, 3, (some .int), rmX5_emptyBox)
def rmX5_gradeToCome : Room := { frames := 3, cells := 0, slots := 0, locals := 64 }
abbrev mX5_gradeToCome : jM := (cX5_gradeToCome, wsX5_gradeToCome, yX5_gradeToCome.cls, 1, (some .int), rmX5_gradeToCome)
def rmX5_gradeBelowEye : Room := { frames := 4, cells := 0, slots := 0, locals := 84 }
abbrev mX5_gradeBelowEye : jM := (cX5_gradeBelowEye, wsX5_gradeBelowEye, yX5_gradeBelowEye.cls, 1, none, rmX5_gradeBelowEye)
def rmX5_fallOut : Room := { frames := 1, cells := 0, slots := 0, locals := 23 }
abbrev mX5_fallOut : jM := (cX5_fallOut, wsX5_fallOut, yX5_fallOut.cls, 3, (some .int), rmX5_fallOut)
def rmX5_dropPlace : Room := { frames := 0, cells := 0, slots := 0, locals := 0 }
abbrev mX5_dropPlace : jM := (cX5_dropPlace, wsX5_dropPlace, yX5_dropPlace.cls, 2, (some .int), rmX5_dropPlace)
def rmX5_dropInto : Room := { frames := 1, cells := 0, slots := 0, locals := 23 }
abbrev mX5_dropInto : jM := (cX5_dropInto, wsX5_dropInto, yX5_dropInto.cls, 4, (some .int), rmX5_dropInto)
def rmX5_tick : Room := { frames := 5, cells := 0, slots := 0, locals := 104 }
abbrev mX5_tick : jM := (cX5_tick, wsX5_tick, yX5_tick.cls, 3, (some .int), rmX5_tick)
def rmX5_ticksToFall : Room := { frames := 4, cells := 0, slots := 0, locals := 84 }
abbrev mX5_ticksToFall : jM := (cX5_ticksToFall, wsX5_ticksToFall, yX5_ticksToFall.cls, 3, (some .int), rmX5_ticksToFall)
def rmX5_isWrong : Room := { frames := 3, cells := 0, slots := 0, locals := 64 }
abbrev mX5_isWrong : jM := (cX5_isWrong, wsX5_isWrong, yX5_isWrong.cls, 3, (some .boolean), rmX5_isWrong)
def rmX5_wrongIn : Room := { frames := 4, cells := 0, slots := 0, locals := 86 }
abbrev mX5_wrongIn : jM := (cX5_wrongIn, wsX5_wrongIn, yX5_wrongIn.cls, 4, (some .int), rmX5_wrongIn)
def rmX5_wrongInAll : Room := { frames := 5, cells := 0, slots := 0, locals := 109 }
abbrev mX5_wrongInAll : jM := (cX5_wrongInAll, wsX5_wrongInAll, yX5_wrongInAll.cls, 3, (some .int), rmX5_wrongInAll)
def rmX5_singlesForLane : Room := { frames := 3, cells := 0, slots := 0, locals := 64 }
abbrev mX5_singlesForLane : jM := (cX5_singlesForLane, wsX5_singlesForLane, yX5_singlesForLane.cls, 4, (some .int), rmX5_singlesForLane)
def rmX6_inRange : Room := { frames := 0, cells := 0, slots := 0, locals := 0 }
abbrev mX6_inRange : jM := (cX6_inRange, wsX6_inRange, yX6_inRange.cls, 3, (some .boolean), rmX6_inRange)
def rmX7_init : Room := { frames := 4, cells := 0, slots := 0, locals := 76 }
abbrev mX7_init : jM := (cX7_init, wsX7_init, yX7_init.cls, 1, none, rmX7_init)
def rmX7_lay : Room := { frames := 4, cells := 0, slots := 0, locals := 86 }
abbrev mX7_lay : jM := (cX7_lay, wsX7_lay, yX7_lay.cls, 4, (some .int), rmX7_lay)
def rmX7_pass : Room := { frames := 6, cells := 0, slots := 0, locals := 126 }
abbrev mX7_pass : jM := (cX7_pass, wsX7_pass, yX7_pass.cls, 4, (some .int), rmX7_pass)
def rmX7_isLane : Room := { frames := 0, cells := 0, slots := 0, locals := 0 }
abbrev mX7_isLane : jM := (cX7_isLane, wsX7_isLane, yX7_isLane.cls, 1, (some .boolean), rmX7_isLane)
def rmX7_rule : Room := { frames := 4, cells := 0, slots := 0, locals := 86 }
abbrev mX7_rule : jM := (cX7_rule, wsX7_rule, yX7_rule.cls, 6, (some .int), rmX7_rule)
def rmX7_drop : Room := { frames := 4, cells := 0, slots := 0, locals := 86 }
abbrev mX7_drop : jM := (cX7_drop, wsX7_drop, yX7_drop.cls, 2, (some .int), rmX7_drop)
def rmX7_water : Room := { frames := 4, cells := 0, slots := 0, locals := 86 }
abbrev mX7_water : jM := (cX7_water, wsX7_water, yX7_water.cls, 2, (some .int), rmX7_water)
def rmX7_isBox : Room := { frames := 0, cells := 0, slots := 0, locals := 0 }
abbrev mX7_isBox : jM := (cX7_isBox, wsX7_isBox, yX7_isBox.cls, 1, (some .boolean), rmX7_isBox)
def rmX7_empty : Room := { frames := 4, cells := 0, slots := 0, locals := 86 }
abbrev mX7_empty : jM := (cX7_empty, wsX7_empty, yX7_empty.cls, 2, (some .int), rmX7_empty)
def rmX7_set : Room := { frames := 4, cells := 0, slots := 0, locals := 86 }
abbrev mX7_set : jM := (cX7_set, wsX7_set, yX7_set.cls, 4, (some .int), rmX7_set)
def rmX7_append : Room := { frames := 1, cells := 0, slots := 0, locals := 21 }
abbrev mX7_append : jM := (cX7_append, wsX7_append, yX7_append.cls, 2, (some .int), rmX7_append)
def rmX7_clear : Room := { frames := 0, cells := 0, slots := 0, locals := 0 }
abbrev mX7_clear : jM := (cX7_clear, wsX7_clear, yX7_clear.cls, 2, (some .int), rmX7_clear)
def rmX7_fault : Room := { frames := 4, cells := 0, slots := 0, locals := 95 }
abbrev mX7_fault : jM := (cX7_fault, wsX7_fault, yX7_fault.cls, 3, (some .int), rmX7_fault)
def rmX7_rules : Room := { frames := 4, cells := 0, slots := 0, locals := 93 }
abbrev mX7_rules : jM := (cX7_rules, wsX7_rules, yX7_rules.cls, 2, (some .int), rmX7_rules)
def rmX7_run : Room := { frames := 6, cells := 0, slots := 0, locals := 126 }
abbrev mX7_run : jM := (cX7_run, wsX7_run, yX7_run.cls, 4, (some .int), rmX7_run)
def rmX7_cup : Room := { frames := 5, cells := 0, slots := 0, locals := 106 }
abbrev mX7_cup : jM := (cX7_cup, wsX7_cup, yX7_cup.cls, 3, (some .int), rmX7_cup)
def rmX7_apple : Room := { frames := 4, cells := 0, slots := 0, locals := 86 }
abbrev mX7_apple : jM := (cX7_apple, wsX7_apple, yX7_apple.cls, 5, (some .int), rmX7_apple)
def rmX7_box : Room := { frames := 5, cells := 0, slots := 0, locals := 109 }
abbrev mX7_box : jM := (cX7_box, wsX7_box, yX7_box.cls, 3, (some .int), rmX7_box)
def rmX7_ruleOf : Room := { frames := 3, cells := 0, slots := 0, locals := 64 }
abbrev mX7_ruleOf : jM := (cX7_ruleOf, wsX7_ruleOf, yX7_ruleOf.cls, 4, (some .int), rmX7_ruleOf)
def rmX7_lane : Room := { frames := 3, cells := 0, slots := 0, locals := 65 }
abbrev mX7_lane : jM := (cX7_lane, wsX7_lane, yX7_lane.cls, 6, (some .int), rmX7_lane)
def rmX7_misses : Room := { frames := 2, cells := 0, slots := 0, locals := 45 }
abbrev mX7_misses : jM := (cX7_misses, wsX7_misses, yX7_misses.cls, 5, (some .int), rmX7_misses)
def rmX7_count : Room := { frames := 6, cells := 0, slots := 0, locals := 131 }
abbrev mX7_count : jM := (cX7_count, wsX7_count, yX7_count.cls, 2, (some .int), rmX7_count)
def rmX7_right : Room := { frames := 6, cells := 0, slots := 0, locals := 131 }
abbrev mX7_right : jM := (cX7_right, wsX7_right, yX7_right.cls, 2, (some .double), rmX7_right)
def rmX7_ifPassed : Room := { frames := 6, cells := 0, slots := 0, locals := 131 }
abbrev mX7_ifPassed : jM := (cX7_ifPassed, wsX7_ifPassed, yX7_ifPassed.cls, 6, (some .int), rmX7_ifPassed)
def rmX7_tightest : Room := { frames := 4, cells := 0, slots := 0, locals := 87 }
abbrev mX7_tightest : jM := (cX7_tightest, wsX7_tightest, yX7_tightest.cls, 5, (some .int), rmX7_tightest)
def rmX7_undo : Room := { frames := 4, cells := 0, slots := 0, locals := 86 }
abbrev mX7_undo : jM := (cX7_undo, wsX7_undo, yX7_undo.cls, 1, (some .int), rmX7_undo)
def rmX7_save : Room := { frames := 3, cells := 0, slots := 0, locals := 65 }
abbrev mX7_save : jM := (cX7_save, wsX7_save, yX7_save.cls, 1, (some .int), rmX7_save)
def rmX7_restore : Room := { frames := 4, cells := 0, slots := 0, locals := 86 }
abbrev mX7_restore : jM := (cX7_restore, wsX7_restore, yX7_restore.cls, 1, (some .int), rmX7_restore)
def rmX8_init : Room := { frames := 1, cells := 0, slots := 0, locals := 14 }
abbrev mX8_init : jM := (cX8_init, wsX8_init, yX8_init.cls, 1, none, rmX8_init)
def rmX8_in : Room := { frames := 0, cells := 0, slots := 0, locals := 0 }
abbrev mX8_in : jM := (cX8_in, wsX8_in, yX8_in.cls, 3, (some .boolean), rmX8_in)
def rmX8_changes : Room := { frames := 0, cells := 0, slots := 0, locals := 0 }
abbrev mX8_changes : jM := (cX8_changes, wsX8_changes, yX8_changes.cls, 2, none, rmX8_changes)
def rmX8_putsAside : Room := { frames := 0, cells := 0, slots := 0, locals := 0 }
abbrev mX8_putsAside : jM := (cX8_putsAside, wsX8_putsAside, yX8_putsAside.cls, 2, none, rmX8_putsAside)
def rmX8_putsBack : Room := { frames := 0, cells := 0, slots := 0, locals := 0 }
abbrev mX8_putsBack : jM := (cX8_putsBack, wsX8_putsBack, yX8_putsBack.cls, 2, none, rmX8_putsBack)
def rmX8_isApple : Room := { frames := 1, cells := 0, slots := 0, locals := 22 }
abbrev mX8_isApple : jM := (cX8_isApple, wsX8_isApple, yX8_isApple.cls, 3, (some .boolean), rmX8_isApple)
def rmX8_packed : Room := { frames := 0, cells := 0, slots := 0, locals := 0 }
abbrev mX8_packed : jM := (cX8_packed, wsX8_packed, yX8_packed.cls, 3, (some .int), rmX8_packed)
def rmX8_weightOf : Room := { frames := 0, cells := 0, slots := 0, locals := 0 }
abbrev mX8_weightOf : jM := (cX8_weightOf, wsX8_weightOf, yX8_weightOf.cls, 1, (some .int), rmX8_weightOf)
def rmX8_redOf : Room := { frames := 0, cells := 0, slots := 0, locals := 0 }
abbrev mX8_redOf : jM := (cX8_redOf, wsX8_redOf, yX8_redOf.cls, 1, (some .int), rmX8_redOf)
def rmX8_bruiseOf : Room := { frames := 0, cells := 0, slots := 0, locals := 0 }
abbrev mX8_bruiseOf : jM := (cX8_bruiseOf, wsX8_bruiseOf, yX8_bruiseOf.cls, 1, (some .int), rmX8_bruiseOf)
def rmX8_seen : Room := { frames := 1, cells := 0, slots := 0, locals := 22 }
abbrev mX8_seen : jM := (cX8_seen, wsX8_seen, yX8_seen.cls, 4, (some .int), rmX8_seen)
def rmX8_ruleAt : Room := { frames := 0, cells := 0, slots := 0, locals := 0 }
abbrev mX8_ruleAt : jM := (cX8_ruleAt, wsX8_ruleAt, yX8_ruleAt.cls, 1, (some .int), rmX8_ruleAt)
def rmX8_missed : Room := { frames := 1, cells := 0, slots := 0, locals := 20 }
abbrev mX8_missed : jM := (cX8_missed, wsX8_missed, yX8_missed.cls, 4, (some .int), rmX8_missed)
def rmX8_laneOf : Room := { frames := 2, cells := 0, slots := 0, locals := 43 }
abbrev mX8_laneOf : jM := (cX8_laneOf, wsX8_laneOf, yX8_laneOf.cls, 3, (some .int), rmX8_laneOf)
def rmX8_laneFromLast : Room := { frames := 2, cells := 0, slots := 0, locals := 43 }
abbrev mX8_laneFromLast : jM := (cX8_laneFromLast, wsX8_laneFromLast, yX8_laneFromLast.cls, 4, (some .int), rmX8_laneFromLast)
def rmX8_cupAt : Room := { frames := 0, cells := 0, slots := 0, locals := 0 }
abbrev mX8_cupAt : jM := (cX8_cupAt, wsX8_cupAt, yX8_cupAt.cls, 1, (some .int), rmX8_cupAt)
def rmX8_boxAt : Room := { frames := 0, cells := 0, slots := 0, locals := 0 }
abbrev mX8_boxAt : jM := (cX8_boxAt, wsX8_boxAt, yX8_boxAt.cls, 1, (some .int), rmX8_boxAt)
def rmX8_falls : Room := { frames := 1, cells := 0, slots := 0, locals := 20 }
abbrev mX8_falls : jM := (cX8_falls, wsX8_falls, yX8_falls.cls, 3, none, rmX8_falls)
def rmX8_gradeOf : Room := { frames := 3, cells := 0, slots := 0, locals := 65 }
abbrev mX8_gradeOf : jM := (cX8_gradeOf, wsX8_gradeOf, yX8_gradeOf.cls, 3, (some .int), rmX8_gradeOf)
def rmX8_grades : Room := { frames := 4, cells := 0, slots := 0, locals := 87 }
abbrev mX8_grades : jM := (cX8_grades, wsX8_grades, yX8_grades.cls, 1, none, rmX8_grades)
def rmX8_moves : Room := { frames := 2, cells := 0, slots := 0, locals := 42 }
abbrev mX8_moves : jM := (cX8_moves, wsX8_moves, yX8_moves.cls, 4, (some .int), rmX8_moves)
def rmX8_drops : Room := { frames := 2, cells := 0, slots := 0, locals := 42 }
abbrev mX8_drops : jM := (cX8_drops, wsX8_drops, yX8_drops.cls, 6, (some .int), rmX8_drops)
def rmX8_tick : Room := { frames := 5, cells := 0, slots := 0, locals := 107 }
abbrev mX8_tick : jM := (cX8_tick, wsX8_tick, yX8_tick.cls, 3, (some .int), rmX8_tick)
def rmX8_lays : Room := { frames := 0, cells := 0, slots := 0, locals := 0 }
abbrev mX8_lays : jM := (cX8_lays, wsX8_lays, yX8_lays.cls, 2, none, rmX8_lays)
def rmX8_lay : Room := { frames := 2, cells := 0, slots := 0, locals := 44 }
abbrev mX8_lay : jM := (cX8_lay, wsX8_lay, yX8_lay.cls, 4, (some .int), rmX8_lay)
def rmX8_pass : Room := { frames := 6, cells := 0, slots := 0, locals := 129 }
abbrev mX8_pass : jM := (cX8_pass, wsX8_pass, yX8_pass.cls, 4, (some .int), rmX8_pass)
def rmX8_rule : Room := { frames := 2, cells := 0, slots := 0, locals := 44 }
abbrev mX8_rule : jM := (cX8_rule, wsX8_rule, yX8_rule.cls, 8, (some .int), rmX8_rule)
def rmX8_isRule : Room := { frames := 1, cells := 0, slots := 0, locals := 22 }
abbrev mX8_isRule : jM := (cX8_isRule, wsX8_isRule, yX8_isRule.cls, 2, (some .boolean), rmX8_isRule)
def rmX8_drop : Room := { frames := 2, cells := 0, slots := 0, locals := 43 }
abbrev mX8_drop : jM := (cX8_drop, wsX8_drop, yX8_drop.cls, 3, (some .int), rmX8_drop)
def rmX8_water : Room := { frames := 1, cells := 0, slots := 0, locals := 22 }
abbrev mX8_water : jM := (cX8_water, wsX8_water, yX8_water.cls, 2, (some .int), rmX8_water)
def rmX8_empty : Room := { frames := 1, cells := 0, slots := 0, locals := 22 }
abbrev mX8_empty : jM := (cX8_empty, wsX8_empty, yX8_empty.cls, 3, (some .int), rmX8_empty)
def rmX8_set : Room := { frames := 1, cells := 0, slots := 0, locals := 22 }
abbrev mX8_set : jM := (cX8_set, wsX8_set, yX8_set.cls, 4, (some .int), rmX8_set)
def rmX8_append : Room := { frames := 1, cells := 0, slots := 0, locals := 22 }
abbrev mX8_append : jM := (cX8_append, wsX8_append, yX8_append.cls, 2, (some .int), rmX8_append)
def rmX8_clear : Room := { frames := 0, cells := 0, slots := 0, locals := 0 }
abbrev mX8_clear : jM := (cX8_clear, wsX8_clear, yX8_clear.cls, 2, (some .int), rmX8_clear)
def rmX8_isAt : Room := { frames := 1, cells := 0, slots := 0, locals := 22 }
abbrev mX8_isAt : jM := (cX8_isAt, wsX8_isAt, yX8_isAt.cls, 3, (some .boolean), rmX8_isAt)
def rmX8_sign : Room := { frames := 2, cells := 0, slots := 0, locals := 44 }
abbrev mX8_sign : jM := (cX8_sign, wsX8_sign, yX8_sign.cls, 3, (some .boolean), rmX8_sign)
def rmX8_begins : Room := { frames := 0, cells := 0, slots := 0, locals := 0 }
abbrev mX8_begins : jM := (cX8_begins, wsX8_begins, yX8_begins.cls, 6, (some .boolean), rmX8_begins)
def rmX8_number : Room := { frames := 2, cells := 0, slots := 0, locals := 44 }
abbrev mX8_number : jM := (cX8_number, wsX8_number, yX8_number.cls, 8, (some .boolean), rmX8_number)
def rmX8_threes : Room := { frames := 3, cells := 0, slots := 0, locals := 71 }
abbrev mX8_threes : jM := (cX8_threes, wsX8_threes, yX8_threes.cls, 1, (some .boolean), rmX8_threes)
def rmX8_part : Room := { frames := 4, cells := 0, slots := 0, locals := 91 }
abbrev mX8_part : jM := (cX8_part, wsX8_part, yX8_part.cls, 2, (some .boolean), rmX8_part)
def rmX8_ruled : Room := { frames := 4, cells := 0, slots := 0, locals := 91 }
abbrev mX8_ruled : jM := (cX8_ruled, wsX8_ruled, yX8_ruled.cls, 1, (some .boolean), rmX8_ruled)
def rmX8_fault : Room := { frames := 5, cells := 0, slots := 0, locals := 112 }
abbrev mX8_fault : jM := (cX8_fault, wsX8_fault, yX8_fault.cls, 4, (some .int), rmX8_fault)
def rmX8_rules : Room := { frames := 6, cells := 0, slots := 0, locals := 135 }
abbrev mX8_rules : jM := (cX8_rules, wsX8_rules, yX8_rules.cls, 3, (some .int), rmX8_rules)
def rmX8_run : Room := { frames := 6, cells := 0, slots := 0, locals := 135 }
abbrev mX8_run : jM := (cX8_run, wsX8_run, yX8_run.cls, 4, (some .int), rmX8_run)
def rmX8_ticksOf : Room := { frames := 4, cells := 0, slots := 0, locals := 87 }
abbrev mX8_ticksOf : jM := (cX8_ticksOf, wsX8_ticksOf, yX8_ticksOf.cls, 3, (some .int), rmX8_ticksOf)
def rmX8_cup : Room := { frames := 5, cells := 0, slots := 0, locals := 109 }
abbrev mX8_cup : jM := (cX8_cup, wsX8_cup, yX8_cup.cls, 6, (some .int), rmX8_cup)
def rmX8_isWrong : Room := { frames := 3, cells := 0, slots := 0, locals := 65 }
abbrev mX8_isWrong : jM := (cX8_isWrong, wsX8_isWrong, yX8_isWrong.cls, 3, (some .boolean), rmX8_isWrong)
def rmX8_apple : Room := { frames := 4, cells := 0, slots := 0, locals := 87 }
abbrev mX8_apple : jM := (cX8_apple, wsX8_apple, yX8_apple.cls, 5, (some .int), rmX8_apple)
def rmX8_wrongIn : Room := { frames := 4, cells := 0, slots := 0, locals := 87 }
abbrev mX8_wrongIn : jM := (cX8_wrongIn, wsX8_wrongIn, yX8_wrongIn.cls, 4, (some .int), rmX8_wrongIn)
def rmX8_weightIn : Room := { frames := 1, cells := 0, slots := 0, locals := 20 }
abbrev mX8_weightIn : jM := (cX8_weightIn, wsX8_weightIn, yX8_weightIn.cls, 4, (some .int), rmX8_weightIn)
def rmX8_leastRed : Room := { frames := 1, cells := 0, slots := 0, locals := 20 }
abbrev mX8_leastRed : jM := (cX8_leastRed, wsX8_leastRed, yX8_leastRed.cls, 5, (some .int), rmX8_leastRed)
def rmX8_worstBruise : Room := { frames := 1, cells := 0, slots := 0, locals := 20 }
abbrev mX8_worstBruise : jM := (cX8_worstBruise, wsX8_worstBruise, yX8_worstBruise.cls, 5, (some .int), rmX8_worstBruise)
def rmX8_box : Room := { frames := 5, cells := 0, slots := 0, locals := 110 }
abbrev mX8_box : jM := (cX8_box, wsX8_box, yX8_box.cls, 3, (some .int), rmX8_box)
def rmX8_isCovered : Room := { frames := 1, cells := 0, slots := 0, locals := 20 }
abbrev mX8_isCovered : jM := (cX8_isCovered, wsX8_isCovered, yX8_isCovered.cls, 6, (some .boolean), rmX8_isCovered)
def rmX8_ruleOf : Room := { frames := 2, cells := 0, slots := 0, locals := 45 }
abbrev mX8_ruleOf : jM := (cX8_ruleOf, wsX8_ruleOf, yX8_ruleOf.cls, 3, (some .int), rmX8_ruleOf)
def rmX8_lane : Room := { frames := 3, cells := 0, slots := 0, locals := 66 }
abbrev mX8_lane : jM := (cX8_lane, wsX8_lane, yX8_lane.cls, 6, (some .int), rmX8_lane)
def rmX8_misses : Room := { frames := 2, cells := 0, slots := 0, locals := 45 }
abbrev mX8_misses : jM := (cX8_misses, wsX8_misses, yX8_misses.cls, 5, (some .int), rmX8_misses)
def rmX8_onBelt : Room := { frames := 1, cells := 0, slots := 0, locals := 20 }
abbrev mX8_onBelt : jM := (cX8_onBelt, wsX8_onBelt, yX8_onBelt.cls, 3, (some .int), rmX8_onBelt)
def rmX8_doublesOnBelt : Room := { frames := 1, cells := 0, slots := 0, locals := 20 }
abbrev mX8_doublesOnBelt : jM := (cX8_doublesOnBelt, wsX8_doublesOnBelt, yX8_doublesOnBelt.cls, 3, (some .int), rmX8_doublesOnBelt)
def rmX8_inBoxes : Room := { frames := 0, cells := 0, slots := 0, locals := 0 }
abbrev mX8_inBoxes : jM := (cX8_inBoxes, wsX8_inBoxes, yX8_inBoxes.cls, 4, (some .int), rmX8_inBoxes)
def rmX8_wrongOnes : Room := { frames := 5, cells := 0, slots := 0, locals := 110 }
abbrev mX8_wrongOnes : jM := (cX8_wrongOnes, wsX8_wrongOnes, yX8_wrongOnes.cls, 3, (some .int), rmX8_wrongOnes)
def rmX8_count : Room := { frames := 6, cells := 0, slots := 0, locals := 132 }
abbrev mX8_count : jM := (cX8_count, wsX8_count, yX8_count.cls, 2, (some .int), rmX8_count)
def rmX8_right : Room := { frames := 6, cells := 0, slots := 0, locals := 132 }
abbrev mX8_right : jM := (cX8_right, wsX8_right, yX8_right.cls, 4, (some .double), rmX8_right)
def rmX8_ifPassed : Room := { frames := 6, cells := 0, slots := 0, locals := 132 }
abbrev mX8_ifPassed : jM := (cX8_ifPassed, wsX8_ifPassed, yX8_ifPassed.cls, 7, (some .int), rmX8_ifPassed)
def rmX8_comeTo : Room := { frames := 3, cells := 0, slots := 0, locals := 65 }
abbrev mX8_comeTo : jM := (cX8_comeTo, wsX8_comeTo, yX8_comeTo.cls, 4, (some .int), rmX8_comeTo)
def rmX8_tightest : Room := { frames := 4, cells := 0, slots := 0, locals := 88 }
abbrev mX8_tightest : jM := (cX8_tightest, wsX8_tightest, yX8_tightest.cls, 7, (some .int), rmX8_tightest)
def rmX8_undo : Room := { frames := 0, cells := 0, slots := 0, locals := 0 }
abbrev mX8_undo : jM := (cX8_undo, wsX8_undo, yX8_undo.cls, 2, (some .int), rmX8_undo)
def rmX8_save : Room := { frames := 2, cells := 0, slots := 0, locals := 42 }
abbrev mX8_save : jM := (cX8_save, wsX8_save, yX8_save.cls, 2, (some .int), rmX8_save)
def rmX8_restore : Room := { frames := 2, cells := 0, slots := 0, locals := 42 }
abbrev mX8_restore : jM := (cX8_restore, wsX8_restore, yX8_restore.cls, 2, (some .int), rmX8_restore)
