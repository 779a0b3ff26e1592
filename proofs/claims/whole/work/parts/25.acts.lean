/-! the reference: what it changes -/
def fLays (f : Int → Int) (t : Int) : Int → Int := jU (jU (jU f (38 + f 37) t) 37 (f 37 + 1)) 171 (f 171 + 1)
def fPass (x : Nat → Int → Int) (f : Int → Int) : Nat → Int → Int
  | 0 => f
  | n + 1 => fTick (sPass x n).1 (fPass x f n)
theorem Rel_pass {x : Nat → Int → Int} {f : Int → Int} {N : Int} (hi : sInv x N) (hN : N ≤ 512) (h : Rel x f) : ∀ n : Nat, Rel (sPass x n).1 (fPass x f n) := by
  intro n
  induction n with
  | zero => exact h
  | succ n ih => exact Rel_tick (sInv_pass hi hN n) hN ih
def fRl (f : Int → Int) (p a r b l : Int) : Int → Int := jU (jU (jU (jU (sh1 f 4 (5 + 4 * p + 3) (5 + 4 * f 4 + 3)) (5 + 4 * p) a) (5 + 4 * p + 1) r) (5 + 4 * p + 2) b) (5 + 4 * p + 3) l
def fRule (f : Int → Int) (p a r b l : Int) : Int → Int := jU (fRl f p a r b l) 4 (f 4 + 1)
theorem fRl_4 (f : Int → Int) {p a r b l : Int} (h : 0 ≤ p) : fRl f p a r b l 4 = f 4 := by
  unfold fRl
  rw [jU_ne (by omega), jU_ne (by omega), jU_ne (by omega), jU_ne (by omega)]
  unfold sh1
  rw [if_neg (by omega)]
def shD (g : Int → Int) (d a i : Int) : Int → Int := fun j => if a ≤ j ∧ j < i then g (j + d) else g j
theorem shD_0 (g : Int → Int) (d a : Int) : shD g d a a = g := by
  funext j
  unfold shD
  rw [if_neg (by omega)]
theorem shD_step {g : Int → Int} {d a i : Int} (h : a ≤ i) (hd : 0 ≤ d) : jU (shD g d a i) i (shD g d a i (i + d)) = shD g d a (i + 1) := by
  funext j
  unfold jU shD
  by_cases h1 : j = i
  · subst h1
    rw [if_pos rfl, if_neg (by omega), if_pos (by omega)]
  · rw [if_neg h1]
    by_cases h2 : a ≤ j ∧ j < i
    · rw [if_pos h2, if_pos (by omega)]
    · rw [if_neg h2, if_neg (by omega)]
def fOut (f : Int → Int) (r : Int) : Int → Int := shD (jU f 4 (f 4 - 1)) 4 (5 + 4 * r) (5 + 4 * (f 4 - 1))
def wXor (w l : Int) : Int := if w / 2 ^ l.toNat % 2 = 0 then w + 2 ^ l.toNat else w - 2 ^ l.toNat
theorem jXor : ∀ w l : Int, 0 ≤ w ∧ w ≤ 15 → 0 ≤ l ∧ l < 4 → (jI w ^^^ (jI 1 <<< (jI l &&& 31)) = jI (wXor w l) ∧ (0 ≤ wXor w l ∧ wXor w l ≤ 15) ∧ wXor w l / 2 ^ l.toNat % 2 = 1 - w / 2 ^ l.toNat % 2) ∧ ∀ k : Int, 0 ≤ k ∧ k < 4 → k ≠ l → wXor w l / 2 ^ k.toNat % 2 = w / 2 ^ k.toNat % 2 := by
  intro w l hw hl
  have key : ∀ a : Nat, a < 16 → ∀ b : Nat, b < 4 → (jI (a : Int) ^^^ (jI 1 <<< (jI (b : Int) &&& 31)) = jI (wXor (a : Int) (b : Int)) ∧ (0 ≤ wXor (a : Int) (b : Int) ∧ wXor (a : Int) (b : Int) ≤ 15) ∧ wXor (a : Int) (b : Int) / 2 ^ (b : Int).toNat % 2 = 1 - (a : Int) / 2 ^ (b : Int).toNat % 2) ∧ ∀ k : Nat, k < 4 → k ≠ b → wXor (a : Int) (b : Int) / 2 ^ (k : Int).toNat % 2 = (a : Int) / 2 ^ (k : Int).toNat % 2 := by decide +kernel
  have h1 := key w.toNat (by omega) l.toNat (by omega)
  have e1 : (w.toNat : Int) = w := by omega
  have e2 : (l.toNat : Int) = l := by omega
  rw [e1, e2] at h1
  refine ⟨h1.1, fun k hk hkl => ?_⟩
  have h2 := h1.2 k.toNat (by omega) (by omega)
  have e3 : (k.toNat : Int) = k := by omega
  rw [e3] at h2
  exact h2
theorem j_ishl_xor {M : jM} {E : jE} {C : jC} {Q : State → Prop} {k n pc : Nat} {L : List (Nat × Value)} {S : List Value} {w : va_W} {a l : Int} (pc1 pc2 : Nat) (hd1 : decode M.1 pc = .ok (.ishl, 1)) (hd2 : decode M.1 pc1 = .ok (.ixor, 1)) (hn1 : pc + 1 = pc1) (hn2 : pc1 + 1 = pc2) (ha : 0 ≤ a ∧ a ≤ 15) (hl : 0 ≤ l ∧ l < 4) (kk : jG M E C Q k n pc2 L (.int (jI (wXor a l)) :: S) w) : jG M E C Q k n pc L (.int (jI l) :: .int (jI 1) :: .int (jI a) :: S) w := by
  subst hn1; subst hn2
  intro hF H locs ls hP hD hS hl'
  refine lv_ishl hF.1 hF.2.1 hd1 ?_
  refine lv_ixor hF.1 hF.2.1 hd2 ?_
  rw [(jXor a l ha hl).1.1]
  exact kk hF H locs ls hP hD hS hl'
def fEmpty (f : Int → Int) (l : Int) : Int → Int := jU (jU f (85 + l) 0) 175 (f 175 + f (85 + l))
def rLay (x : Nat → Int → Int) (F : Nat → Int → Int) (u r b : Int) : Int × (Nat → Int → Int) := if tIn u r b = 0 then (-1, F) else if 2 ≤ x 2 0 then (-3, F) else (x 2 0 + 1, jS (fCh F) 0 (fLays (F 0) (tOf u r b)))
def rPass (x : Nat → Int → Int) (F : Nat → Int → Int) (t : Int) : Int × (Nat → Int → Int) := if t < 1 ∨ 30 < t then (-1, F) else ((sPass x t.toNat).2, jS (fCh F) 0 (fPass x (F 0) t.toNat))
def rRule (x : Nat → Int → Int) (F : Nat → Int → Int) (p u r b l : Int) : Int × (Nat → Int → Int) := if p < 0 ∨ x 9 0 < p ∨ tIn u r b = 0 ∨ l < 0 ∨ 4 ≤ l then (-1, F) else if 8 ≤ x 9 0 then (-3, F) else (x 9 0 + 1, jS (fCh F) 0 (fRule (F 0) p u r b l))
def rDrop (x : Nat → Int → Int) (F : Nat → Int → Int) (r : Int) : Int × (Nat → Int → Int) := if 0 ≤ r ∧ r < x 9 0 then (x 9 0 - 1, jS (fCh F) 0 (fOut (F 0) r)) else (-1, F)
def rWater (x : Nat → Int → Int) (F : Nat → Int → Int) (l : Int) : Int × (Nat → Int → Int) := if 0 ≤ l ∧ l < 4 then (1 - x 8 l, jS (fCh F) 0 (jU (F 0) 3 (wXor (F 0 3) l))) else (-1, F)
def rEmpty (x : Nat → Int → Int) (F : Nat → Int → Int) (l : Int) : Int × (Nat → Int → Int) := if 0 ≤ l ∧ l ≤ 4 then (x 5 l, jS (fCh F) 0 (fEmpty (F 0) l)) else (-1, F)
def setLo (w : Int) : Int := if w = 0 then -20 else if w = 1 then 0 else 1
def setHi (w : Int) : Int := if w = 1 then 9 else 20
def rSetM (x : Nat → Int → Int) (F : Nat → Int → Int) (w a : Int) : Int × (Nat → Int → Int) := if w < 0 ∨ 2 < w ∨ a < setLo w ∨ setHi w < a then (-1, F) else (if w = 0 then x 7 w + 20 else x 7 w, jS (fCh F) 0 (jU (F 0) w a))
def rAppend (F : Nat → Int → Int) (c : Int) : Int × (Nat → Int → Int) := if c < 33 ∨ 126 < c then (-1, F) else if F 6 2 = 60 then (-3, F) else (F 6 2 + 1, jS (jS F 4 (jU (F 4) (F 6 2) c)) 6 (jU (F 6) 2 (F 6 2 + 1)))
def rUndo (F : Nat → Int → Int) : Int × (Nat → Int → Int) := if F 6 1 = 0 then (-2, F) else (F 6 1 - 1, jS (jS F 6 (jU (F 6) 1 (F 6 1 - 1))) 0 (jCp (F 1) (F 0) (1200 * (F 6 1 - 1)) 0 1200))
def rRest (y : Nat → Int → Int) (F : Nat → Int → Int) : Int × (Nat → Int → Int) := if F 6 0 = 0 then (-2, F) else (jSum (y 2) 12, jS (fCh F) 0 (jCp (F 2) (F 0) 0 0 1200))
def fIf (x : Nat → Int → Int) (F : Nat → Int → Int) (n : Nat) : Nat → Int → Int := jS (jS F 3 (jCp (F 0) (F 3) 0 0 1200)) 0 (jCp (jCp (F 0) (F 3) 0 0 1200) (fPass x (F 0) n) 0 0 1200)
def rIf (x : Nat → Int → Int) (F : Nat → Int → Int) (t w : Int) : Int × (Nat → Int → Int) := if t < 1 ∨ 30 < t ∨ w < 0 ∨ 3 < w then (-1, F) else (if w = 0 then (sPass x t.toNat).2 else if w = 1 then (sPass x t.toNat).1 9 3 - x 9 3 else if w = 2 then sWa (sPass x t.toNat).1 else sFirst x (x 9 3) t.toNat, fIf x F t.toNat)
def rTight (x : Nat → Int → Int) (r e : Int) : Int := if r < 0 ∨ x 9 0 ≤ r ∨ e < 1 ∨ 20 < e then -1 else tgF x r e 101
theorem jU_self (g : Int → Int) (i : Int) : jU g i (g i) = g := by
  funext j
  unfold jU
  by_cases h : j = i
  · rw [if_pos h, h]
  · rw [if_neg h]
theorem Rel_tg {x : Nat → Int → Int} {f : Int → Int} {r a : Int} (hx : sOK x) (h : Rel x f) (hr : 0 ≤ r ∧ r < x 9 0) (ha : 0 ≤ a ∧ a ≤ 100) : Rel (tgX x r a) (jU f (5 + 4 * r + 1) a) := by
  have r9 : 0 ≤ x 9 0 ∧ x 9 0 ≤ 8 := hx 9
  have r0 : ∀ i, 0 ≤ x 0 i ∧ x 0 i < 404000 := hx 0
  have r0r := r0 r
  obtain ⟨⟨s0, s1, s2⟩, ⟨w0, w1, w2, w3, w4⟩, ⟨u0, u1⟩, hc, hb, hn⟩ := h
  have g1 := tB_rng (x 0 r)
  have g2 := tW_rng (t := x 0 r) (by omega)
  obtain ⟨p1, p2, p3⟩ := tOf_parts (a := tW (x 0 r)) (r := a) (b := tB (x 0 r)) (by omega) ha g1
  refine ⟨⟨?_, ?_, ?_⟩, ⟨?_, ?_, ?_, ?_, ?_⟩, ⟨?_, fun i h0 h1 => ?_⟩, rCup_kept hx hc rfl rfl rfl (fun k _ _ => jU_ne (by omega)), rBox_kept hx hb rfl rfl (fun k _ _ => jU_ne (by omega)), ?_⟩
  · rw [jU_ne (by omega)]; exact s0
  · rw [jU_ne (by omega)]; exact s1
  · rw [jU_ne (by omega)]; exact s2
  · rw [jU_ne (by omega)]; exact w0
  · rw [jU_ne (by omega)]; exact w1
  · rw [jU_ne (by omega)]; exact w2
  · rw [jU_ne (by omega)]; exact w3
  · rw [jU_ne (by omega)]; exact w4
  · rw [jU_ne (by omega)]; exact u0
  · have e0 : tgX x r a 0 = jU (x 0) r (tOf (tW (x 0 r)) a (tB (x 0 r))) := rfl
    have e1 : tgX x r a 1 = x 1 := rfl
    have h1' : i < x 9 0 := h1
    obtain ⟨v1, v2, v3, v4⟩ := u1 i h0 h1'
    rw [e0, e1]
    by_cases q : i = r
    · subst q
      rw [jU_at, p1, p2, p3, jU_ne (by omega), jU_at, jU_ne (by omega), jU_ne (by omega)]
      exact ⟨v1, rfl, v3, v4⟩
    · rw [jU_ne q, jU_ne (by omega), jU_ne (by omega), jU_ne (by omega), jU_ne (by omega)]
      exact ⟨v1, v2, v3, v4⟩
  · unfold rCnt
    rw [jU_ne (by omega), jU_ne (by omega), jU_ne (by omega), jU_ne (by omega), jU_ne (by omega), jU_ne (by omega)]
    exact hn
theorem sFirst_4 (x : Nat → Int → Int) (o : Int) (n : Nat) : sFirst x o n = -4 ∨ 0 ≤ sFirst x o n := by
  induction n with
  | zero => exact Or.inl rfl
  | succ n ih => unfold sFirst; split <;> omega
theorem sOver_mono (x : Nat → Int → Int) (n : Nat) : x 9 3 ≤ (sPass x n).1 9 3 := by
  induction n with
  | zero => show x 9 3 ≤ x 9 3; omega
  | succ n ih =>
    have h := sOver_tick (sPass x n).1
    show x 9 3 ≤ sTick (sPass x n).1 9 3
    omega
set_option maxRecDepth 20000 in
theorem in_X8_lays_X8 : ∀ x ∈ u_ws RX8 TX8 11, x ∈ wsX8_lays := by decide +kernel
set_option maxRecDepth 100000 in
set_option maxHeartbeats 4000000 in
theorem c_X8_lays (E : jE) (o a : Nat) (fs : List Value) (f : Int → Int) (t : Int) (hc : 0 ≤ f 37 ∧ f 37 < 2) : jMV E yX8_lays wsX8_lays rmX8_lays [.ref o, .int (jI t)] (wMs E o a fs f) (wMs E o a fs (fLays f t)) := by
  refine jMV_of (cc := cX8_lays) (maxL := 2) (ret := none) [(0, .ref o), (1, .int (jI t))] (by decide) rfl rfl (Nat.le_of_ble_eq_true rfl) (fun C => ?_)
  show jG mX8_lays E C (jQv E C (wMs E o a fs (fLays f t))) 0 0 0 [(0, .ref o), (1, .int (jI t))] [] (wMs E o a fs f)
  have n37 : jU f (38 + f 37) t 37 = f 37 := jU_ne (by omega)
  have n171 : jU (jU f (38 + f 37) t) 37 (f 37 + 1) 171 = f 171 := by rw [jU_ne (by omega), jU_ne (by omega)]
  refine j_aload_n 0 1 dX8_lays_0 rfl rfl ?_
  refine j_get 0 0 1 4 in_X8_lays_X8 dX8_lays_1 rfl rfl rfl (by decide) rfl rfl ?_
  refine j_bipush 6 dX8_lays_4 rfl (by decide) ?_
  refine j_aload_n 0 7 dX8_lays_6 rfl rfl ?_
  refine j_get 0 0 1 10 in_X8_lays_X8 dX8_lays_7 rfl rfl rfl (by decide) rfl rfl ?_
  refine j_bipush 12 dX8_lays_10 rfl (by decide) ?_
  refine j_iald 1 13 dX8_lays_12 rfl rfl (by decide) (by omega) ?_
  refine j_iadd 14 dX8_lays_13 rfl ?_
  refine j_iload_n 1 15 dX8_lays_14 rfl rfl ?_
  refine j_iast 1 16 [_, _] dX8_lays_15 rfl rfl (by decide) (by omega) rfl ?_
  refine j_aload_n 0 17 dX8_lays_16 rfl rfl ?_
  refine j_get 0 0 1 20 in_X8_lays_X8 dX8_lays_17 rfl rfl rfl (by decide) rfl rfl ?_
  refine j_bipush 22 dX8_lays_20 rfl (by decide) ?_
  refine j_dup2 23 dX8_lays_22 rfl rfl rfl ?_
  refine j_iald 1 24 dX8_lays_23 rfl rfl (by decide) (by omega) ?_
  rw [n37]
  refine j_iconst 25 dX8_lays_24 rfl ?_
  refine j_iadd 26 dX8_lays_25 rfl ?_
  refine j_iast 1 27 [_, _] dX8_lays_26 rfl rfl (by decide) (by omega) rfl ?_
  refine j_aload_n 0 28 dX8_lays_27 rfl rfl ?_
  refine j_get 0 0 1 31 in_X8_lays_X8 dX8_lays_28 rfl rfl rfl (by decide) rfl rfl ?_
  refine j_sipush 34 dX8_lays_31 rfl (by decide) ?_
  refine j_dup2 35 dX8_lays_34 rfl rfl rfl ?_
  refine j_iald 1 36 dX8_lays_35 rfl rfl (by decide) (by omega) ?_
  rw [n171]
  refine j_iconst 37 dX8_lays_36 rfl ?_
  refine j_iadd 38 dX8_lays_37 rfl ?_
  refine j_iast 1 39 [_, _] dX8_lays_38 rfl rfl (by decide) (by omega) rfl ?_
  exact j_vret dX8_lays_39 rfl (by rfl)
theorem kX8_lay_X8_isApple : jKs mX8_lay 86 yX8_isApple wsX8_isApple rmX8_isApple 3 := ⟨gX8_lay_X8_isApple, ⟨_, _, _, _, rfl, by decide⟩, by decide +kernel, rfl, rfl, by decide⟩
set_option maxRecDepth 20000 in
theorem in_X8_lay_X8 : ∀ x ∈ u_ws RX8 TX8 11, x ∈ wsX8_lay := by decide +kernel
theorem kX8_lay_X8_changes : jKv mX8_lay 89 yX8_changes wsX8_changes rmX8_changes 0 := ⟨gX8_lay_X8_changes, ⟨_, _, _, _, rfl, by decide⟩, by decide +kernel, rfl, rfl, by decide⟩
theorem kX8_lay_X8_packed : jKs mX8_lay 46 yX8_packed wsX8_packed rmX8_packed 3 := ⟨gX8_lay_X8_packed, ⟨_, _, _, _, rfl, by decide⟩, by decide +kernel, rfl, rfl, by decide⟩
theorem kX8_lay_X8_lays : jKv mX8_lay 92 yX8_lays wsX8_lays rmX8_lays 1 := ⟨gX8_lay_X8_lays, ⟨_, _, _, _, rfl, by decide⟩, by decide +kernel, rfl, rfl, by decide⟩
set_option maxRecDepth 100000 in
set_option maxHeartbeats 4000000 in
theorem c_X8_lay (E : jE) (q : Nat → Nat) (F : Nat → Int → Int) (x : Nat → Int → Int) (u r b : Int) (hn : 0 ≤ F 6 1 ∧ F 6 1 ≤ 4) (hx : sOK x) (hr : Rel x (F 0)) (ub : -2147483648 ≤ u ∧ u < 2147483648) (rb : -2147483648 ≤ r ∧ r < 2147483648) (bb : -2147483648 ≤ b ∧ b < 2147483648) : jMI E yX8_lay wsX8_lay rmX8_lay [.ref (q 0), .int (jI u), .int (jI r), .int (jI b)] (wModel E q F) ((rLay x F u r b).1) (wModel E q (rLay x F u r b).2) := by
  refine jMI_of (cc := cX8_lay) (maxL := 4) (ret := (some .int)) [(0, .ref (q 0)), (1, .int (jI u)), (2, .int (jI r)), (3, .int (jI b))] (by decide) rfl rfl (Nat.le_of_ble_eq_true rfl) (fun C => ?_)
  show jG mX8_lay E C (jQi E C ((rLay x F u r b).1) (wModel E q (rLay x F u r b).2)) 0 0 0 [(0, .ref (q 0)), (1, .int (jI u)), (2, .int (jI r)), (3, .int (jI b))] [] (wModel E q F)
  have r9 : 0 ≤ x 9 0 ∧ x 9 0 ≤ 8 := hx 9
  have r0 : ∀ i, 0 ≤ x 0 i ∧ x 0 i < 404000 := hx 0
  have r1 : ∀ i, 0 ≤ x 1 i ∧ x 1 i ≤ 3 := hx 1
  have r2 : ∀ i, 0 ≤ x 2 i ∧ x 2 i ≤ 2 := hx 2
  have r3 : ∀ i, -1 ≤ x 3 i ∧ x 3 i ≤ 4 := hx 3
  have r4 : ∀ i, 0 ≤ x 4 i ∧ x 4 i < 404000 := hx 4
  have r5 : ∀ i, 0 ≤ x 5 i ∧ x 5 i ≤ 512 ∧ (i < 4 → x 5 i ≤ 20) := hx 5
  have r6 : ∀ i, 0 ≤ x 6 i ∧ x 6 i < 404000 := hx 6
  have hrr := Rel_RelR hr
  have c0 := Rel_cup0 hr
  have s4 : x 9 0 = F 0 4 := hr.2.2.1.1
  have r20 := r2 0
  have tt : (tIn u r b = 0) ∨ (tIn u r b = 1 ∧ (50 ≤ u ∧ u ≤ 300) ∧ (0 ≤ r ∧ r ≤ 100) ∧ (0 ≤ b ∧ b ≤ 9)) := by unfold tIn; split <;> omega
  refine j_iload_n 1 1 dX8_lay_0 rfl rfl ?_
  refine j_iload_n 2 2 dX8_lay_1 rfl rfl ?_
  refine j_iload_n 3 3 dX8_lay_2 rfl rfl ?_
  refine j_callSi [] 6 [_, _, _, _, _, _, _] (c_X8_isApple E _ _ _ (by omega) (by omega) (by omega)) rfl kX8_lay_X8_isApple rfl rfl rfl rfl rfl (Nat.le_of_ble_eq_true rfl) (by decide) dX8_lay_3 rfl ?_
  refine j_if_ne 11 9 dX8_lay_6 rfl (by decide) (by omega) (fun h_6 => ?_) (fun h_6 => ?_)
  · skip
    refine j_aload_n 0 12 dX8_lay_11 rfl rfl ?_
    refine j_get 0 0 1 15 in_X8_lay_X8 dX8_lay_12 rfl rfl rfl (by decide) rfl rfl ?_
    refine j_bipush 17 dX8_lay_15 rfl (by decide) ?_
    refine j_iald 1 18 dX8_lay_17 rfl rfl (by decide) (by omega) ?_
    refine j_iconst 19 dX8_lay_18 rfl ?_
    refine j_icmp_ne 25 22 dX8_lay_19 rfl (by decide) (by omega) (by omega) (fun h_19 => ?_) (fun h_19 => ?_)
    · skip
      have e : rLay x F u r b = (x 2 0 + 1, jS (fCh F) 0 (fLays (F 0) (tOf u r b))) := by unfold rLay; rw [if_neg (by omega), if_neg (by omega)]
      rw [e]
      refine j_aload_n 0 26 dX8_lay_25 rfl rfl ?_
      refine j_callVv 0 [0, 1, 2, 3, 4, 5, 6] 29 [_, _, _, _, _, _, _] (c_X8_changes E _ _ (by omega)) rfl kX8_lay_X8_changes rfl rfl rfl rfl rfl rfl rfl (Nat.le_of_ble_eq_true rfl) (by decide) dX8_lay_26 rfl ?_
      refine j_aload_n 0 30 dX8_lay_29 rfl rfl ?_
      refine j_iload_n 1 31 dX8_lay_30 rfl rfl ?_
      refine j_iload_n 2 32 dX8_lay_31 rfl rfl ?_
      refine j_iload_n 3 33 dX8_lay_32 rfl rfl ?_
      refine j_callSi [] 36 [_, _, _, _, _, _, _] (c_X8_packed E _ _ _ ) rfl kX8_lay_X8_packed rfl rfl rfl rfl rfl (Nat.le_of_ble_eq_true rfl) (by decide) dX8_lay_33 rfl ?_
      refine j_callVv 0 [0, 1] 39 [_, _, _, _, _, _, _] (c_X8_lays E _ _ _ (F 0) _ (by omega)) rfl kX8_lay_X8_lays rfl rfl rfl rfl rfl rfl rfl (Nat.le_of_ble_eq_true rfl) (by decide) dX8_lay_36 rfl ?_
      refine j_aload_n 0 40 dX8_lay_39 rfl rfl ?_
      refine j_get 0 0 1 43 in_X8_lay_X8 dX8_lay_40 rfl rfl rfl (by decide) rfl rfl ?_
      refine j_bipush 45 dX8_lay_43 rfl (by decide) ?_
      refine j_iald 1 46 dX8_lay_45 rfl rfl (by decide) (by omega) ?_
      have e2 : fLays (F 0) (tOf u r b) 37 = x 2 0 + 1 := by unfold fLays; rw [jU_ne (by omega), jU_at]; omega
      change jG _ E C _ 0 0 46 _ (.int (jI (fLays (F 0) (tOf u r b) 37)) :: _) _
      rw [e2]
      exact j_iret dX8_lay_46 rfl (by first | rfl | (exfalso; omega)) (by rfl)
    · skip
      have e : rLay x F u r b = (-3, F) := by unfold rLay; rw [if_neg (by omega), if_pos (by omega)]
      rw [e]
      refine j_bipush 24 dX8_lay_22 rfl (by decide) ?_
      exact j_iret dX8_lay_24 rfl (by first | rfl | (exfalso; omega)) (by rfl)
  · skip
    have e : rLay x F u r b = (-1, F) := if_pos (by omega)
    rw [e]
    refine j_iconst 10 dX8_lay_9 rfl ?_
    exact j_iret dX8_lay_10 rfl (by first | rfl | (exfalso; omega)) (by rfl)
theorem kX8_pass_X8_in : jKs mX8_pass 32 yX8_in wsX8_in rmX8_in 3 := ⟨gX8_pass_X8_in, ⟨_, _, _, _, rfl, by decide⟩, by decide +kernel, rfl, rfl, by decide⟩
theorem kX8_pass_X8_changes : jKv mX8_pass 89 yX8_changes wsX8_changes rmX8_changes 0 := ⟨gX8_pass_X8_changes, ⟨_, _, _, _, rfl, by decide⟩, by decide +kernel, rfl, rfl, by decide⟩
theorem kX8_pass_X8_tick : jKv mX8_pass 96 yX8_tick wsX8_tick rmX8_tick 0 := ⟨gX8_pass_X8_tick, ⟨_, _, _, _, rfl, by decide⟩, by decide +kernel, rfl, rfl, by decide⟩
set_option maxRecDepth 100000 in
set_option maxHeartbeats 4000000 in
theorem c_X8_pass (E : jE) (q : Nat → Nat) (F : Nat → Int → Int) (x : Nat → Int → Int) (t : Int) (hn : 0 ≤ F 6 1 ∧ F 6 1 ≤ 4) (hx : sOK x) (hr : Rel x (F 0)) (hi : sInv x 512) (tb : -2147483648 ≤ t ∧ t < 2147483648) : jMI E yX8_pass wsX8_pass rmX8_pass [.ref (q 0), .int (jI t)] (wModel E q F) ((rPass x F t).1) (wModel E q (rPass x F t).2) := by
  refine jMI_of (cc := cX8_pass) (maxL := 4) (ret := (some .int)) [(0, .ref (q 0)), (1, .int (jI t))] (by decide) rfl rfl (Nat.le_of_ble_eq_true rfl) (fun C => ?_)
  show jG mX8_pass E C (jQi E C ((rPass x F t).1) (wModel E q (rPass x F t).2)) 0 0 0 [(0, .ref (q 0)), (1, .int (jI t))] [] (wModel E q F)
  have r9 : 0 ≤ x 9 0 ∧ x 9 0 ≤ 8 := hx 9
  have r0 : ∀ i, 0 ≤ x 0 i ∧ x 0 i < 404000 := hx 0
  have r1 : ∀ i, 0 ≤ x 1 i ∧ x 1 i ≤ 3 := hx 1
  have r2 : ∀ i, 0 ≤ x 2 i ∧ x 2 i ≤ 2 := hx 2
  have r3 : ∀ i, -1 ≤ x 3 i ∧ x 3 i ≤ 4 := hx 3
  have r4 : ∀ i, 0 ≤ x 4 i ∧ x 4 i < 404000 := hx 4
  have r5 : ∀ i, 0 ≤ x 5 i ∧ x 5 i ≤ 512 ∧ (i < 4 → x 5 i ≤ 20) := hx 5
  have r6 : ∀ i, 0 ≤ x 6 i ∧ x 6 i < 404000 := hx 6
  have hrr := Rel_RelR hr
  have c0 := Rel_cup0 hr
  have s4 : x 9 0 = F 0 4 := hr.2.2.1.1
  have r20 := r2 0
  have q1 : (1 ≤ t ∧ t ≤ 30 ∧ (if 1 ≤ t ∧ t ≤ 30 then (1 : Int) else 0) = 1) ∨ (¬ (1 ≤ t ∧ t ≤ 30) ∧ (if 1 ≤ t ∧ t ≤ 30 then (1 : Int) else 0) = 0) := by split <;> omega
  refine j_iload_n 1 1 dX8_pass_0 rfl rfl ?_
  refine j_iconst 2 dX8_pass_1 rfl ?_
  refine j_bipush 4 dX8_pass_2 rfl (by decide) ?_
  refine j_callSi [] 7 [_, _, _, _, _, _, _] (c_X8_in E _ _ _ (by omega) (by omega) (by omega)) rfl kX8_pass_X8_in rfl rfl rfl rfl rfl (Nat.le_of_ble_eq_true rfl) (by decide) dX8_pass_4 rfl ?_
  refine j_if_ne 12 10 dX8_pass_7 rfl (by decide) (by omega) (fun h_7 => ?_) (fun h_7 => ?_)
  · skip
    have e : rPass x F t = ((sPass x t.toNat).2, jS (fCh F) 0 (fPass x (F 0) t.toNat)) := if_neg (by omega)
    rw [e]
    refine j_aload_n 0 13 dX8_pass_12 rfl rfl ?_
    refine j_callVv 0 [0, 1, 2, 3, 4, 5, 6] 16 [_, _, _, _, _, _, _] (c_X8_changes E _ _ (by omega)) rfl kX8_pass_X8_changes rfl rfl rfl rfl rfl rfl rfl (Nat.le_of_ble_eq_true rfl) (by decide) dX8_pass_13 rfl ?_
    refine j_iconst 17 dX8_pass_16 rfl ?_
    refine j_istore_n 18 [_, _, _] dX8_pass_17 rfl (by decide) rfl ?_
    refine j_iconst 19 dX8_pass_18 rfl ?_
    refine j_istore_n 20 [_, _, _, _] dX8_pass_19 rfl (by decide) rfl ?_
    have key20 : ∀ (fu i : Nat), t.toNat < i + fu → (i : Int) ≤ t → jG mX8_pass E C (jQi E C ((((sPass x t.toNat).2, jS (fCh F) 0 (fPass x (F 0) t.toNat)) : Int × (Nat → Int → Int)).1) (wModel E q (((sPass x t.toNat).2, jS (fCh F) 0 (fPass x (F 0) t.toNat)) : Int × (Nat → Int → Int)).2)) 0 0 20 [(0, .ref (q 0)), (1, .int (jI t)), (2, .int (jI (sPass x i).2)), (3, .int (jI (i : Int)))] [] (wModel E q (jS (fCh F) 0 (fPass x (F 0) i))) := by
      intro fu
      induction fu with
      | zero => intro i h1 h2; exact absurd h1 (by omega)
      | succ fu ih =>
        intro i h1 h2
        have iv := sInv_pass hi (by omega) i
        have rv := Rel_pass hi (by omega) hr i
        refine j_iload_n 3 21 dX8_pass_20 rfl rfl ?_
        refine j_iload_n 1 22 dX8_pass_21 rfl rfl ?_
        refine j_icmp_ge 38 25 dX8_pass_22 rfl (by decide) (by omega) (by omega) (fun h_22 => ?_) (fun h_22 => ?_)
        · skip
          obtain rfl : i = t.toNat := by omega
          refine j_iload_n 2 39 dX8_pass_38 rfl rfl ?_
          exact j_iret dX8_pass_39 rfl (by first | rfl | (exfalso; omega)) (by rfl)
        · skip
          refine j_iload_n 2 26 dX8_pass_25 rfl rfl ?_
          refine j_aload_n 0 27 dX8_pass_26 rfl rfl ?_
          refine j_callVi 0 [0, 1] 30 [_, _, _, _, _, _, _] (c_X8_tick E _ _ _ (fPass x (F 0) i) (sPass x i).1 _ (by exact iv) (by omega) (by exact rv)) rfl kX8_pass_X8_tick rfl rfl rfl rfl rfl rfl rfl (Nat.le_of_ble_eq_true rfl) (by decide) dX8_pass_27 rfl ?_
          refine j_iadd 31 dX8_pass_30 rfl ?_
          refine j_istore_n 32 [_, _, _, _] dX8_pass_31 rfl (by decide) rfl ?_
          refine j_iinc 3 35 [_, _, _, _] dX8_pass_32 rfl rfl (by decide) rfl ?_
          refine j_goto 20 dX8_pass_35 (by decide) ?_
          refine j_perm [2, 3, 1, 0] rfl ?_
          exact ih (i + 1) (by omega) (by omega)
    refine j_perm [2, 3, 1, 0] rfl ?_
    exact key20 (t.toNat + 1) 0 (by omega) (by omega)
  · skip
    have e : rPass x F t = (-1, F) := if_pos (by omega)
    rw [e]
    refine j_iconst 11 dX8_pass_10 rfl ?_
    exact j_iret dX8_pass_11 rfl (by first | rfl | (exfalso; omega)) (by rfl)
set_option maxRecDepth 20000 in
theorem in_X8_rule_X8 : ∀ x ∈ u_ws RX8 TX8 11, x ∈ wsX8_rule := by decide +kernel
theorem kX8_rule_X8_in : jKs mX8_rule 32 yX8_in wsX8_in rmX8_in 3 := ⟨gX8_rule_X8_in, ⟨_, _, _, _, rfl, by decide⟩, by decide +kernel, rfl, rfl, by decide⟩
theorem kX8_rule_X8_isApple : jKs mX8_rule 86 yX8_isApple wsX8_isApple rmX8_isApple 3 := ⟨gX8_rule_X8_isApple, ⟨_, _, _, _, rfl, by decide⟩, by decide +kernel, rfl, rfl, by decide⟩
theorem kX8_rule_X8_changes : jKv mX8_rule 89 yX8_changes wsX8_changes rmX8_changes 0 := ⟨gX8_rule_X8_changes, ⟨_, _, _, _, rfl, by decide⟩, by decide +kernel, rfl, rfl, by decide⟩
theorem kX8_rule_X8_ruleAt : jKs mX8_rule 50 yX8_ruleAt wsX8_ruleAt rmX8_ruleAt 1 := ⟨gX8_rule_X8_ruleAt, ⟨_, _, _, _, rfl, by decide⟩, by decide +kernel, rfl, rfl, by decide⟩
set_option maxRecDepth 100000 in
set_option maxHeartbeats 4000000 in
theorem c_X8_rule (E : jE) (q : Nat → Nat) (F : Nat → Int → Int) (x : Nat → Int → Int) (p u r b l : Int) (hn : 0 ≤ F 6 1 ∧ F 6 1 ≤ 4) (hx : sOK x) (hr : Rel x (F 0)) (pb : -2147483648 ≤ p ∧ p < 2147483648) (ub : -2147483648 ≤ u ∧ u < 2147483648) (rb : -2147483648 ≤ r ∧ r < 2147483648) (bb : -2147483648 ≤ b ∧ b < 2147483648) (lb : -2147483648 ≤ l ∧ l < 2147483648) : jMI E yX8_rule wsX8_rule rmX8_rule [.ref (q 0), .int (jI p), .int (jI u), .int (jI r), .int (jI b), .int (jI l)] (wModel E q F) ((rRule x F p u r b l).1) (wModel E q (rRule x F p u r b l).2) := by
  refine jMI_of (cc := cX8_rule) (maxL := 8) (ret := (some .int)) [(0, .ref (q 0)), (1, .int (jI p)), (2, .int (jI u)), (3, .int (jI r)), (4, .int (jI b)), (5, .int (jI l))] (by decide) rfl rfl (Nat.le_of_ble_eq_true rfl) (fun C => ?_)
  show jG mX8_rule E C (jQi E C ((rRule x F p u r b l).1) (wModel E q (rRule x F p u r b l).2)) 0 0 0 [(0, .ref (q 0)), (1, .int (jI p)), (2, .int (jI u)), (3, .int (jI r)), (4, .int (jI b)), (5, .int (jI l))] [] (wModel E q F)
  have r9 : 0 ≤ x 9 0 ∧ x 9 0 ≤ 8 := hx 9
  have r0 : ∀ i, 0 ≤ x 0 i ∧ x 0 i < 404000 := hx 0
  have r1 : ∀ i, 0 ≤ x 1 i ∧ x 1 i ≤ 3 := hx 1
  have r2 : ∀ i, 0 ≤ x 2 i ∧ x 2 i ≤ 2 := hx 2
  have r3 : ∀ i, -1 ≤ x 3 i ∧ x 3 i ≤ 4 := hx 3
  have r4 : ∀ i, 0 ≤ x 4 i ∧ x 4 i < 404000 := hx 4
  have r5 : ∀ i, 0 ≤ x 5 i ∧ x 5 i ≤ 512 ∧ (i < 4 → x 5 i ≤ 20) := hx 5
  have r6 : ∀ i, 0 ≤ x 6 i ∧ x 6 i < 404000 := hx 6
  have hrr := Rel_RelR hr
  have c0 := Rel_cup0 hr
  have s4 : x 9 0 = F 0 4 := hr.2.2.1.1
  have r20 := r2 0
  have tt : (tIn u r b = 0) ∨ (tIn u r b = 1 ∧ (50 ≤ u ∧ u ≤ 300) ∧ (0 ≤ r ∧ r ≤ 100) ∧ (0 ≤ b ∧ b ≤ 9)) := by unfold tIn; split <;> omega
  have q1 : (0 ≤ p ∧ p ≤ F 0 4 ∧ (if 0 ≤ p ∧ p ≤ F 0 4 then (1 : Int) else 0) = 1) ∨ (¬ (0 ≤ p ∧ p ≤ F 0 4) ∧ (if 0 ≤ p ∧ p ≤ F 0 4 then (1 : Int) else 0) = 0) := by split <;> omega
  have q2 : (0 ≤ l ∧ l ≤ 3 ∧ (if 0 ≤ l ∧ l ≤ 3 then (1 : Int) else 0) = 1) ∨ (¬ (0 ≤ l ∧ l ≤ 3) ∧ (if 0 ≤ l ∧ l ≤ 3 then (1 : Int) else 0) = 0) := by split <;> omega
  refine j_iload_n 1 1 dX8_rule_0 rfl rfl ?_
  refine j_iconst 2 dX8_rule_1 rfl ?_
  refine j_aload_n 0 3 dX8_rule_2 rfl rfl ?_
  refine j_get 0 0 1 6 in_X8_rule_X8 dX8_rule_3 rfl rfl rfl (by decide) rfl rfl ?_
  refine j_iconst 7 dX8_rule_6 rfl ?_
  refine j_iald 1 8 dX8_rule_7 rfl rfl (by decide) (by omega) ?_
  refine j_callSi [] 11 [_, _, _, _, _, _, _] (c_X8_in E _ _ _ (by omega) (by omega) (by omega)) rfl kX8_rule_X8_in rfl rfl rfl rfl rfl (Nat.le_of_ble_eq_true rfl) (by decide) dX8_rule_8 rfl ?_
  refine j_if_eq 34 14 dX8_rule_11 rfl (by decide) (by omega) (fun h_11 => ?_) (fun h_11 => ?_)
  · skip
    have e : rRule x F p u r b l = (-1, F) := if_pos (by omega)
    rw [e]
    refine j_iconst 35 dX8_rule_34 rfl ?_
    exact j_iret dX8_rule_35 rfl (by first | rfl | (exfalso; omega)) (by rfl)
  · skip
    refine j_iload_n 2 15 dX8_rule_14 rfl rfl ?_
    refine j_iload_n 3 16 dX8_rule_15 rfl rfl ?_
    refine j_iload 4 18 dX8_rule_16 rfl rfl ?_
    refine j_callSi [] 21 [_, _, _, _, _, _, _] (c_X8_isApple E _ _ _ (by omega) (by omega) (by omega)) rfl kX8_rule_X8_isApple rfl rfl rfl rfl rfl (Nat.le_of_ble_eq_true rfl) (by decide) dX8_rule_18 rfl ?_
    refine j_if_eq 34 24 dX8_rule_21 rfl (by decide) (by omega) (fun h_21 => ?_) (fun h_21 => ?_)
    · skip
      have e : rRule x F p u r b l = (-1, F) := if_pos (by omega)
      rw [e]
      refine j_iconst 35 dX8_rule_34 rfl ?_
      exact j_iret dX8_rule_35 rfl (by first | rfl | (exfalso; omega)) (by rfl)
    · skip
      refine j_iload 5 26 dX8_rule_24 rfl rfl ?_
      refine j_iconst 27 dX8_rule_26 rfl ?_
      refine j_iconst 28 dX8_rule_27 rfl ?_
      refine j_callSi [] 31 [_, _, _, _, _, _, _] (c_X8_in E _ _ _ (by omega) (by omega) (by omega)) rfl kX8_rule_X8_in rfl rfl rfl rfl rfl (Nat.le_of_ble_eq_true rfl) (by decide) dX8_rule_28 rfl ?_
      refine j_if_ne 36 34 dX8_rule_31 rfl (by decide) (by omega) (fun h_31 => ?_) (fun h_31 => ?_)
      · skip
        refine j_aload_n 0 37 dX8_rule_36 rfl rfl ?_
        refine j_get 0 0 1 40 in_X8_rule_X8 dX8_rule_37 rfl rfl rfl (by decide) rfl rfl ?_
        refine j_iconst 41 dX8_rule_40 rfl ?_
        refine j_iald 1 42 dX8_rule_41 rfl rfl (by decide) (by omega) ?_
        refine j_bipush 44 dX8_rule_42 rfl (by decide) ?_
        refine j_icmp_ne 50 47 dX8_rule_44 rfl (by decide) (by omega) (by omega) (fun h_44 => ?_) (fun h_44 => ?_)
        · skip
          have e : rRule x F p u r b l = (x 9 0 + 1, jS (fCh F) 0 (fRule (F 0) p u r b l)) := by unfold rRule; rw [if_neg (by omega), if_neg (by omega)]
          rw [e]
          refine j_aload_n 0 51 dX8_rule_50 rfl rfl ?_
          refine j_callVv 0 [0, 1, 2, 3, 4, 5, 6] 54 [_, _, _, _, _, _, _] (c_X8_changes E _ _ (by omega)) rfl kX8_rule_X8_changes rfl rfl rfl rfl rfl rfl rfl (Nat.le_of_ble_eq_true rfl) (by decide) dX8_rule_51 rfl ?_
          refine j_iload_n 1 55 dX8_rule_54 rfl rfl ?_
          refine j_callSi [] 58 [_, _, _, _, _, _, _] (c_X8_ruleAt E _ ) rfl kX8_rule_X8_ruleAt rfl rfl rfl rfl rfl (Nat.le_of_ble_eq_true rfl) (by decide) dX8_rule_55 rfl ?_
          refine j_istore 60 [_, _, _, _, _, _, _] dX8_rule_58 rfl (by decide) rfl ?_
          refine j_aload_n 1 61 dX8_rule_60 rfl rfl ?_
          refine j_get 0 0 1 64 in_X8_rule_X8 dX8_rule_61 rfl rfl rfl (by decide) rfl rfl ?_
          refine j_iconst 65 dX8_rule_64 rfl ?_
          refine j_iald 1 66 dX8_rule_65 rfl rfl (by decide) (by omega) ?_
          change jG _ E C _ 0 0 66 _ (.int (jI (F 0 4)) :: _) _
          refine j_callSi [] 69 [_, _, _, _, _, _, _] (c_X8_ruleAt E _ ) rfl kX8_rule_X8_ruleAt rfl rfl rfl rfl rfl (Nat.le_of_ble_eq_true rfl) (by decide) dX8_rule_66 rfl ?_
          refine j_iconst 70 dX8_rule_69 rfl ?_
          refine j_iadd 71 dX8_rule_70 rfl ?_
          refine j_istore 73 [_, _, _, _, _, _, _, _] dX8_rule_71 rfl (by decide) rfl ?_
          have key73 : ∀ (fu : Nat) (i : Int), i - (5 + 4 * p + 3) < fu → 5 + 4 * p + 3 ≤ i ∧ i ≤ 5 + 4 * F 0 4 + 3 → jG mX8_rule E C (jQi E C (((x 9 0 + 1, jS (fCh F) 0 (fRule (F 0) p u r b l)) : Int × (Nat → Int → Int)).1) (wModel E q ((x 9 0 + 1, jS (fCh F) 0 (fRule (F 0) p u r b l)) : Int × (Nat → Int → Int)).2)) 0 0 73 [(0, .ref (q 0)), (1, .int (jI p)), (2, .int (jI u)), (3, .int (jI r)), (4, .int (jI b)), (5, .int (jI l)), (6, .int (jI (5 + 4 * p))), (7, .int (jI i))] [] (wModel E q (jS (fCh F) 0 (sh1 (F 0) 4 i (5 + 4 * F 0 4 + 3)))) := by
            intro fu
            induction fu with
            | zero => intro i h1 h2; exact absurd h1 (by omega)
            | succ fu ih =>
              intro i h1 h2
              refine j_iload 7 75 dX8_rule_73 rfl rfl ?_
              refine j_iload 6 77 dX8_rule_75 rfl rfl ?_
              refine j_iconst 78 dX8_rule_77 rfl ?_
              refine j_iadd 79 dX8_rule_78 rfl ?_
              refine j_icmp_lt 104 82 dX8_rule_79 rfl (by decide) (by omega) (by omega) (fun h_79 => ?_) (fun h_79 => ?_)
              · skip
                obtain rfl : i = 5 + 4 * p + 3 := by omega
                refine j_aload_n 0 105 dX8_rule_104 rfl rfl ?_
                refine j_get 0 0 1 108 in_X8_rule_X8 dX8_rule_105 rfl rfl rfl (by decide) rfl rfl ?_
                refine j_iload 6 110 dX8_rule_108 rfl rfl ?_
                refine j_iload_n 2 111 dX8_rule_110 rfl rfl ?_
                refine j_iast 1 112 [_, _, _, _, _, _, _] dX8_rule_111 rfl rfl (by decide) (by omega) rfl ?_
                refine j_aload_n 0 113 dX8_rule_112 rfl rfl ?_
                refine j_get 0 0 1 116 in_X8_rule_X8 dX8_rule_113 rfl rfl rfl (by decide) rfl rfl ?_
                refine j_iload 6 118 dX8_rule_116 rfl rfl ?_
                refine j_iconst 119 dX8_rule_118 rfl ?_
                refine j_iadd 120 dX8_rule_119 rfl ?_
                refine j_iload_n 3 121 dX8_rule_120 rfl rfl ?_
                refine j_iast 1 122 [_, _, _, _, _, _, _] dX8_rule_121 rfl rfl (by decide) (by omega) rfl ?_
                refine j_aload_n 0 123 dX8_rule_122 rfl rfl ?_
                refine j_get 0 0 1 126 in_X8_rule_X8 dX8_rule_123 rfl rfl rfl (by decide) rfl rfl ?_
                refine j_iload 6 128 dX8_rule_126 rfl rfl ?_
                refine j_iconst 129 dX8_rule_128 rfl ?_
                refine j_iadd 130 dX8_rule_129 rfl ?_
                refine j_iload 4 132 dX8_rule_130 rfl rfl ?_
                refine j_iast 1 133 [_, _, _, _, _, _, _] dX8_rule_132 rfl rfl (by decide) (by omega) rfl ?_
                refine j_aload_n 0 134 dX8_rule_133 rfl rfl ?_
                refine j_get 0 0 1 137 in_X8_rule_X8 dX8_rule_134 rfl rfl rfl (by decide) rfl rfl ?_
                refine j_iload 6 139 dX8_rule_137 rfl rfl ?_
                refine j_iconst 140 dX8_rule_139 rfl ?_
                refine j_iadd 141 dX8_rule_140 rfl ?_
                refine j_iload 5 143 dX8_rule_141 rfl rfl ?_
                refine j_iast 1 144 [_, _, _, _, _, _, _] dX8_rule_143 rfl rfl (by decide) (by omega) rfl ?_
                refine j_aload_n 0 145 dX8_rule_144 rfl rfl ?_
                refine j_get 0 0 1 148 in_X8_rule_X8 dX8_rule_145 rfl rfl rfl (by decide) rfl rfl ?_
                refine j_iconst 149 dX8_rule_148 rfl ?_
                refine j_dup2 150 dX8_rule_149 rfl rfl rfl ?_
                refine j_iald 1 151 dX8_rule_150 rfl rfl (by decide) (by omega) ?_
                have e4 : fRl (F 0) p u r b l 4 = F 0 4 := fRl_4 (F 0) (by omega)
                change jG _ E C _ 0 0 151 _ (.int (jI (fRl (F 0) p u r b l 4)) :: _) _
                rw [e4]
                refine j_iconst 152 dX8_rule_151 rfl ?_
                refine j_iadd 153 dX8_rule_152 rfl ?_
                refine j_iast 1 154 [_, _, _, _, _, _, _] dX8_rule_153 rfl rfl (by decide) (by omega) rfl ?_
                refine j_aload_n 0 155 dX8_rule_154 rfl rfl ?_
                refine j_get 0 0 1 158 in_X8_rule_X8 dX8_rule_155 rfl rfl rfl (by decide) rfl rfl ?_
                refine j_iconst 159 dX8_rule_158 rfl ?_
                refine j_iald 1 160 dX8_rule_159 rfl rfl (by decide) (by omega) ?_
                have e5 : fRule (F 0) p u r b l 4 = x 9 0 + 1 := by unfold fRule; rw [jU_at]; omega
                change jG _ E C _ 0 0 160 _ (.int (jI (fRule (F 0) p u r b l 4)) :: _) _
                rw [e5]
                exact j_iret dX8_rule_160 rfl (by first | rfl | (exfalso; omega)) (by rfl)
              · skip
                refine j_aload_n 0 83 dX8_rule_82 rfl rfl ?_
                refine j_get 0 0 1 86 in_X8_rule_X8 dX8_rule_83 rfl rfl rfl (by decide) rfl rfl ?_
                refine j_iload 7 88 dX8_rule_86 rfl rfl ?_
                refine j_aload_n 0 89 dX8_rule_88 rfl rfl ?_
                refine j_get 0 0 1 92 in_X8_rule_X8 dX8_rule_89 rfl rfl rfl (by decide) rfl rfl ?_
                refine j_iload 7 94 dX8_rule_92 rfl rfl ?_
                refine j_iconst 95 dX8_rule_94 rfl ?_
                refine j_isub 96 dX8_rule_95 rfl ?_
                refine j_iald 1 97 dX8_rule_96 rfl rfl (by decide) (by omega) ?_
                refine j_iast 1 98 [_, _, _, _, _, _, _] dX8_rule_97 rfl rfl (by decide) (by omega) rfl ?_
                refine j_iinc 7 101 [_, _, _, _, _, _, _, _] dX8_rule_98 rfl rfl (by decide) rfl ?_
                refine j_goto 73 dX8_rule_101 (by decide) ?_
                refine j_perm [1, 2, 3, 4, 5, 6, 7, 0] rfl ?_
                refine j_eqw (w' := wModel E q (jS (fCh F) 0 (sh1 (F 0) 4 (i - 1) (5 + 4 * F 0 4 + 3)))) (congrArg (fun g => wModel E q (jS (fCh F) 0 g)) (sh1_step (x := F 0) (k := 4) (i := i) (m := 5 + 4 * F 0 4 + 3) (by omega) (by omega))) ?_
                exact ih (i - 1) (by omega) (by omega)
          refine j_perm [2, 3, 4, 5, 6, 7, 1, 0] rfl ?_
          refine j_eqw (w' := wModel E q (jS (fCh F) 0 (sh1 (F 0) 4 (5 + 4 * F 0 4 + 3) (5 + 4 * F 0 4 + 3)))) (congrArg (fun g => wModel E q (jS (fCh F) 0 g)) (sh1_start (F 0) 4 (5 + 4 * F 0 4 + 3)).symm) ?_
          exact key73 (5 + 4 * F 0 4 + 3 - (5 + 4 * p + 3) + 1).toNat (5 + 4 * F 0 4 + 3) (by omega) (by omega)
        · skip
          have e : rRule x F p u r b l = (-3, F) := by unfold rRule; rw [if_neg (by omega), if_pos (by omega)]
          rw [e]
          refine j_bipush 49 dX8_rule_47 rfl (by decide) ?_
          exact j_iret dX8_rule_49 rfl (by first | rfl | (exfalso; omega)) (by rfl)
      · skip
        have e : rRule x F p u r b l = (-1, F) := if_pos (by omega)
        rw [e]
        refine j_iconst 35 dX8_rule_34 rfl ?_
        exact j_iret dX8_rule_35 rfl (by first | rfl | (exfalso; omega)) (by rfl)
theorem kX8_drop_X8_isRule : jKv mX8_drop 99 yX8_isRule wsX8_isRule rmX8_isRule 1 := ⟨gX8_drop_X8_isRule, ⟨_, _, _, _, rfl, by decide⟩, by decide +kernel, rfl, rfl, by decide⟩
theorem kX8_drop_X8_changes : jKv mX8_drop 89 yX8_changes wsX8_changes rmX8_changes 0 := ⟨gX8_drop_X8_changes, ⟨_, _, _, _, rfl, by decide⟩, by decide +kernel, rfl, rfl, by decide⟩
set_option maxRecDepth 20000 in
theorem in_X8_drop_X8 : ∀ x ∈ u_ws RX8 TX8 11, x ∈ wsX8_drop := by decide +kernel
theorem kX8_drop_X8_ruleAt : jKs mX8_drop 50 yX8_ruleAt wsX8_ruleAt rmX8_ruleAt 1 := ⟨gX8_drop_X8_ruleAt, ⟨_, _, _, _, rfl, by decide⟩, by decide +kernel, rfl, rfl, by decide⟩
set_option maxRecDepth 100000 in
set_option maxHeartbeats 4000000 in
theorem c_X8_drop (E : jE) (q : Nat → Nat) (F : Nat → Int → Int) (x : Nat → Int → Int) (r : Int) (hn : 0 ≤ F 6 1 ∧ F 6 1 ≤ 4) (hx : sOK x) (hr : Rel x (F 0)) (rb : -2147483648 ≤ r ∧ r < 2147483648) : jMI E yX8_drop wsX8_drop rmX8_drop [.ref (q 0), .int (jI r)] (wModel E q F) ((rDrop x F r).1) (wModel E q (rDrop x F r).2) := by
  refine jMI_of (cc := cX8_drop) (maxL := 3) (ret := (some .int)) [(0, .ref (q 0)), (1, .int (jI r))] (by decide) rfl rfl (Nat.le_of_ble_eq_true rfl) (fun C => ?_)
  show jG mX8_drop E C (jQi E C ((rDrop x F r).1) (wModel E q (rDrop x F r).2)) 0 0 0 [(0, .ref (q 0)), (1, .int (jI r))] [] (wModel E q F)
  have r9 : 0 ≤ x 9 0 ∧ x 9 0 ≤ 8 := hx 9
  have r0 : ∀ i, 0 ≤ x 0 i ∧ x 0 i < 404000 := hx 0
  have r1 : ∀ i, 0 ≤ x 1 i ∧ x 1 i ≤ 3 := hx 1
  have r2 : ∀ i, 0 ≤ x 2 i ∧ x 2 i ≤ 2 := hx 2
  have r3 : ∀ i, -1 ≤ x 3 i ∧ x 3 i ≤ 4 := hx 3
  have r4 : ∀ i, 0 ≤ x 4 i ∧ x 4 i < 404000 := hx 4
  have r5 : ∀ i, 0 ≤ x 5 i ∧ x 5 i ≤ 512 ∧ (i < 4 → x 5 i ≤ 20) := hx 5
  have r6 : ∀ i, 0 ≤ x 6 i ∧ x 6 i < 404000 := hx 6
  have hrr := Rel_RelR hr
  have c0 := Rel_cup0 hr
  have s4 : x 9 0 = F 0 4 := hr.2.2.1.1
  have r20 := r2 0
  have rr : (0 ≤ r ∧ r < F 0 4 ∧ (if 0 ≤ r ∧ r < F 0 4 then (1 : Int) else 0) = 1) ∨ (¬ (0 ≤ r ∧ r < F 0 4) ∧ (if 0 ≤ r ∧ r < F 0 4 then (1 : Int) else 0) = 0) := by split <;> omega
  refine j_aload_n 0 1 dX8_drop_0 rfl rfl ?_
  refine j_iload_n 1 2 dX8_drop_1 rfl rfl ?_
  refine j_callVi 0 [0, 1] 5 [_, _, _, _, _, _, _] (c_X8_isRule E _ _ _ (F 0) _ (by omega) (by omega)) rfl kX8_drop_X8_isRule rfl rfl rfl rfl rfl rfl rfl (Nat.le_of_ble_eq_true rfl) (by decide) dX8_drop_2 rfl ?_
  refine j_if_ne 10 8 dX8_drop_5 rfl (by decide) (by omega) (fun h_5 => ?_) (fun h_5 => ?_)
  · skip
    have e : rDrop x F r = (x 9 0 - 1, jS (fCh F) 0 (fOut (F 0) r)) := if_pos (by omega)
    rw [e]
    refine j_aload_n 0 11 dX8_drop_10 rfl rfl ?_
    refine j_callVv 0 [0, 1, 2, 3, 4, 5, 6] 14 [_, _, _, _, _, _, _] (c_X8_changes E _ _ (by omega)) rfl kX8_drop_X8_changes rfl rfl rfl rfl rfl rfl rfl (Nat.le_of_ble_eq_true rfl) (by decide) dX8_drop_11 rfl ?_
    refine j_aload_n 0 15 dX8_drop_14 rfl rfl ?_
    refine j_get 0 0 1 18 in_X8_drop_X8 dX8_drop_15 rfl rfl rfl (by decide) rfl rfl ?_
    refine j_iconst 19 dX8_drop_18 rfl ?_
    refine j_dup2 20 dX8_drop_19 rfl rfl rfl ?_
    refine j_iald 1 21 dX8_drop_20 rfl rfl (by decide) (by omega) ?_
    refine j_iconst 22 dX8_drop_21 rfl ?_
    refine j_isub 23 dX8_drop_22 rfl ?_
    refine j_iast 1 24 [_, _, _, _, _, _, _] dX8_drop_23 rfl rfl (by decide) (by omega) rfl ?_
    refine j_iload_n 1 25 dX8_drop_24 rfl rfl ?_
    refine j_callSi [] 28 [_, _, _, _, _, _, _] (c_X8_ruleAt E _ ) rfl kX8_drop_X8_ruleAt rfl rfl rfl rfl rfl (Nat.le_of_ble_eq_true rfl) (by decide) dX8_drop_25 rfl ?_
    refine j_istore_n 29 [_, _, _] dX8_drop_28 rfl (by decide) rfl ?_
    have key29 : ∀ (fu : Nat) (i : Int), 5 + 4 * (F 0 4 - 1) - i < fu → 5 + 4 * r ≤ i ∧ i ≤ 5 + 4 * (F 0 4 - 1) → jG mX8_drop E C (jQi E C (((x 9 0 - 1, jS (fCh F) 0 (fOut (F 0) r)) : Int × (Nat → Int → Int)).1) (wModel E q ((x 9 0 - 1, jS (fCh F) 0 (fOut (F 0) r)) : Int × (Nat → Int → Int)).2)) 0 0 29 [(0, .ref (q 0)), (1, .int (jI r)), (2, .int (jI i))] [] (wModel E q (jS (fCh F) 0 (shD (jU (F 0) 4 (F 0 4 - 1)) 4 (5 + 4 * r) i))) := by
      intro fu
      induction fu with
      | zero => intro i h1 h2; exact absurd h1 (by omega)
      | succ fu ih =>
        intro i h1 h2
        have e4 : shD (jU (F 0) 4 (F 0 4 - 1)) 4 (5 + 4 * r) i 4 = F 0 4 - 1 := by unfold shD; rw [if_neg (by omega), jU_at]
        refine j_iload_n 2 30 dX8_drop_29 rfl rfl ?_
        refine j_aload_n 0 31 dX8_drop_30 rfl rfl ?_
        refine j_get 0 0 1 34 in_X8_drop_X8 dX8_drop_31 rfl rfl rfl (by decide) rfl rfl ?_
        refine j_iconst 35 dX8_drop_34 rfl ?_
        refine j_iald 1 36 dX8_drop_35 rfl rfl (by decide) (by omega) ?_
        change jG _ E C _ 0 0 36 _ (.int (jI (shD (jU (F 0) 4 (F 0 4 - 1)) 4 (5 + 4 * r) i 4)) :: _) _
        rw [e4]
        refine j_callSi [] 39 [_, _, _, _, _, _, _] (c_X8_ruleAt E _ ) rfl kX8_drop_X8_ruleAt rfl rfl rfl rfl rfl (Nat.le_of_ble_eq_true rfl) (by decide) dX8_drop_36 rfl ?_
        refine j_icmp_ge 62 42 dX8_drop_39 rfl (by decide) (by omega) (by omega) (fun h_39 => ?_) (fun h_39 => ?_)
        · skip
          obtain rfl : i = 5 + 4 * (F 0 4 - 1) := by omega
          refine j_aload_n 0 63 dX8_drop_62 rfl rfl ?_
          refine j_get 0 0 1 66 in_X8_drop_X8 dX8_drop_63 rfl rfl rfl (by decide) rfl rfl ?_
          refine j_iconst 67 dX8_drop_66 rfl ?_
          refine j_iald 1 68 dX8_drop_67 rfl rfl (by decide) (by omega) ?_
          change jG _ E C _ 0 0 68 _ (.int (jI (shD (jU (F 0) 4 (F 0 4 - 1)) 4 (5 + 4 * r) (5 + 4 * (F 0 4 - 1)) 4)) :: _) _
          rw [e4]
          exact j_iret dX8_drop_68 rfl (by show jI (F 0 4 - 1) = jI (x 9 0 - 1); rw [s4]) (by rfl)
        · skip
          refine j_aload_n 0 43 dX8_drop_42 rfl rfl ?_
          refine j_get 0 0 1 46 in_X8_drop_X8 dX8_drop_43 rfl rfl rfl (by decide) rfl rfl ?_
          refine j_iload_n 2 47 dX8_drop_46 rfl rfl ?_
          refine j_aload_n 0 48 dX8_drop_47 rfl rfl ?_
          refine j_get 0 0 1 51 in_X8_drop_X8 dX8_drop_48 rfl rfl rfl (by decide) rfl rfl ?_
          refine j_iload_n 2 52 dX8_drop_51 rfl rfl ?_
          refine j_iconst 53 dX8_drop_52 rfl ?_
          refine j_iadd 54 dX8_drop_53 rfl ?_
          refine j_iald 1 55 dX8_drop_54 rfl rfl (by decide) (by omega) ?_
          refine j_iast 1 56 [_, _, _, _, _, _, _] dX8_drop_55 rfl rfl (by decide) (by omega) rfl ?_
          refine j_iinc 2 59 [_, _, _] dX8_drop_56 rfl rfl (by decide) rfl ?_
          refine j_goto 29 dX8_drop_59 (by decide) ?_
          refine j_perm [1, 2, 0] rfl ?_
          refine j_eqw (w' := wModel E q (jS (fCh F) 0 (shD (jU (F 0) 4 (F 0 4 - 1)) 4 (5 + 4 * r) (i + 1)))) (congrArg (fun g => wModel E q (jS (fCh F) 0 g)) (shD_step (g := jU (F 0) 4 (F 0 4 - 1)) (d := 4) (a := 5 + 4 * r) (i := i) (by omega) (by omega))) ?_
          exact ih (i + 1) (by omega) (by omega)
    refine j_perm [1, 2, 0] rfl ?_
    refine j_eqw (w' := wModel E q (jS (fCh F) 0 (shD (jU (F 0) 4 (F 0 4 - 1)) 4 (5 + 4 * r) (5 + 4 * r)))) (congrArg (fun g => wModel E q (jS (fCh F) 0 g)) (shD_0 (jU (F 0) 4 (F 0 4 - 1)) 4 (5 + 4 * r)).symm) ?_
    exact key29 (5 + 4 * (F 0 4 - 1) - (5 + 4 * r) + 1).toNat (5 + 4 * r) (by omega) (by omega)
  · skip
    have e : rDrop x F r = (-1, F) := if_neg (by omega)
    rw [e]
    refine j_iconst 9 dX8_drop_8 rfl ?_
    exact j_iret dX8_drop_9 rfl (by first | rfl | (exfalso; omega)) (by rfl)
theorem kX8_water_X8_in : jKs mX8_water 32 yX8_in wsX8_in rmX8_in 3 := ⟨gX8_water_X8_in, ⟨_, _, _, _, rfl, by decide⟩, by decide +kernel, rfl, rfl, by decide⟩
theorem kX8_water_X8_changes : jKv mX8_water 89 yX8_changes wsX8_changes rmX8_changes 0 := ⟨gX8_water_X8_changes, ⟨_, _, _, _, rfl, by decide⟩, by decide +kernel, rfl, rfl, by decide⟩
set_option maxRecDepth 20000 in
theorem in_X8_water_X8 : ∀ x ∈ u_ws RX8 TX8 11, x ∈ wsX8_water := by decide +kernel
set_option maxRecDepth 100000 in
set_option maxHeartbeats 4000000 in
theorem c_X8_water (E : jE) (q : Nat → Nat) (F : Nat → Int → Int) (x : Nat → Int → Int) (l : Int) (hn : 0 ≤ F 6 1 ∧ F 6 1 ≤ 4) (hx : sOK x) (hr : Rel x (F 0)) (lb : -2147483648 ≤ l ∧ l < 2147483648) : jMI E yX8_water wsX8_water rmX8_water [.ref (q 0), .int (jI l)] (wModel E q F) ((rWater x F l).1) (wModel E q (rWater x F l).2) := by
  refine jMI_of (cc := cX8_water) (maxL := 2) (ret := (some .int)) [(0, .ref (q 0)), (1, .int (jI l))] (by decide) rfl rfl (Nat.le_of_ble_eq_true rfl) (fun C => ?_)
  show jG mX8_water E C (jQi E C ((rWater x F l).1) (wModel E q (rWater x F l).2)) 0 0 0 [(0, .ref (q 0)), (1, .int (jI l))] [] (wModel E q F)
  have r9 : 0 ≤ x 9 0 ∧ x 9 0 ≤ 8 := hx 9
  have r0 : ∀ i, 0 ≤ x 0 i ∧ x 0 i < 404000 := hx 0
  have r1 : ∀ i, 0 ≤ x 1 i ∧ x 1 i ≤ 3 := hx 1
  have r2 : ∀ i, 0 ≤ x 2 i ∧ x 2 i ≤ 2 := hx 2
  have r3 : ∀ i, -1 ≤ x 3 i ∧ x 3 i ≤ 4 := hx 3
  have r4 : ∀ i, 0 ≤ x 4 i ∧ x 4 i < 404000 := hx 4
  have r5 : ∀ i, 0 ≤ x 5 i ∧ x 5 i ≤ 512 ∧ (i < 4 → x 5 i ≤ 20) := hx 5
  have r6 : ∀ i, 0 ≤ x 6 i ∧ x 6 i < 404000 := hx 6
  have hrr := Rel_RelR hr
  have c0 := Rel_cup0 hr
  have s4 : x 9 0 = F 0 4 := hr.2.2.1.1
  have r20 := r2 0
  have q1 : (0 ≤ l ∧ l ≤ 3 ∧ (if 0 ≤ l ∧ l ≤ 3 then (1 : Int) else 0) = 1) ∨ (¬ (0 ≤ l ∧ l ≤ 3) ∧ (if 0 ≤ l ∧ l ≤ 3 then (1 : Int) else 0) = 0) := by split <;> omega
  refine j_iload_n 1 1 dX8_water_0 rfl rfl ?_
  refine j_iconst 2 dX8_water_1 rfl ?_
  refine j_iconst 3 dX8_water_2 rfl ?_
  refine j_callSi [] 6 [_, _, _, _, _, _, _] (c_X8_in E _ _ _ (by omega) (by omega) (by omega)) rfl kX8_water_X8_in rfl rfl rfl rfl rfl (Nat.le_of_ble_eq_true rfl) (by decide) dX8_water_3 rfl ?_
  refine j_if_ne 11 9 dX8_water_6 rfl (by decide) (by omega) (fun h_6 => ?_) (fun h_6 => ?_)
  · skip
    have e : rWater x F l = (1 - x 8 l, jS (fCh F) 0 (jU (F 0) 3 (wXor (F 0 3) l))) := if_pos (by omega)
    rw [e]
    refine j_aload_n 0 12 dX8_water_11 rfl rfl ?_
    refine j_callVv 0 [0, 1, 2, 3, 4, 5, 6] 15 [_, _, _, _, _, _, _] (c_X8_changes E _ _ (by omega)) rfl kX8_water_X8_changes rfl rfl rfl rfl rfl rfl rfl (Nat.le_of_ble_eq_true rfl) (by decide) dX8_water_12 rfl ?_
    have jx := jXor (F 0 3) l hr.2.1.1 (by omega)
    have wl := rWat_at hr.2.1 (l := l) (by omega)
    refine j_aload_n 0 16 dX8_water_15 rfl rfl ?_
    refine j_get 0 0 1 19 in_X8_water_X8 dX8_water_16 rfl rfl rfl (by decide) rfl rfl ?_
    refine j_iconst 20 dX8_water_19 rfl ?_
    refine j_dup2 21 dX8_water_20 rfl rfl rfl ?_
    refine j_iald 1 22 dX8_water_21 rfl rfl (by decide) (by omega) ?_
    refine j_iconst 23 dX8_water_22 rfl ?_
    refine j_iload_n 1 24 dX8_water_23 rfl rfl ?_
    change jG _ E C _ 0 0 24 _ (.int (jI l) :: .int (jI 1) :: .int (jI (F 0 3)) :: _) _
    refine j_ishl_xor 25 26 dX8_water_24 dX8_water_25 rfl rfl hr.2.1.1 (by omega) ?_
    refine j_iast 1 27 [_, _, _, _, _, _, _] dX8_water_26 rfl rfl (by decide) (by omega) rfl ?_
    refine j_aload_n 0 28 dX8_water_27 rfl rfl ?_
    refine j_get 0 0 1 31 in_X8_water_X8 dX8_water_28 rfl rfl rfl (by decide) rfl rfl ?_
    refine j_iconst 32 dX8_water_31 rfl ?_
    refine j_iald 1 33 dX8_water_32 rfl rfl (by decide) (by omega) ?_
    refine j_iload_n 1 34 dX8_water_33 rfl rfl ?_
    change jG _ E C _ 0 0 34 _ (.int (jI l) :: .int (jI (jU (F 0) 3 (wXor (F 0 3) l) 3)) :: _) _
    rw [jU_at]
    refine j_ishr_and 35 36 37 dX8_water_34 dX8_water_35 dX8_water_36 rfl rfl rfl jx.1.2.1 (by omega) ?_
    rw [jx.1.2.2, ← wl]
    exact j_iret dX8_water_37 rfl (by first | rfl | (exfalso; omega)) (by rfl)
  · skip
    have e : rWater x F l = (-1, F) := if_neg (by omega)
    rw [e]
    refine j_iconst 10 dX8_water_9 rfl ?_
    exact j_iret dX8_water_10 rfl (by first | rfl | (exfalso; omega)) (by rfl)
theorem kX8_empty_X8_in : jKs mX8_empty 32 yX8_in wsX8_in rmX8_in 3 := ⟨gX8_empty_X8_in, ⟨_, _, _, _, rfl, by decide⟩, by decide +kernel, rfl, rfl, by decide⟩
theorem kX8_empty_X8_changes : jKv mX8_empty 89 yX8_changes wsX8_changes rmX8_changes 0 := ⟨gX8_empty_X8_changes, ⟨_, _, _, _, rfl, by decide⟩, by decide +kernel, rfl, rfl, by decide⟩
set_option maxRecDepth 20000 in
theorem in_X8_empty_X8 : ∀ x ∈ u_ws RX8 TX8 11, x ∈ wsX8_empty := by decide +kernel
set_option maxRecDepth 100000 in
set_option maxHeartbeats 4000000 in
theorem c_X8_empty (E : jE) (q : Nat → Nat) (F : Nat → Int → Int) (x : Nat → Int → Int) (l : Int) (hn : 0 ≤ F 6 1 ∧ F 6 1 ≤ 4) (hx : sOK x) (hr : Rel x (F 0)) (lb : -2147483648 ≤ l ∧ l < 2147483648) : jMI E yX8_empty wsX8_empty rmX8_empty [.ref (q 0), .int (jI l)] (wModel E q F) ((rEmpty x F l).1) (wModel E q (rEmpty x F l).2) := by
  refine jMI_of (cc := cX8_empty) (maxL := 3) (ret := (some .int)) [(0, .ref (q 0)), (1, .int (jI l))] (by decide) rfl rfl (Nat.le_of_ble_eq_true rfl) (fun C => ?_)
  show jG mX8_empty E C (jQi E C ((rEmpty x F l).1) (wModel E q (rEmpty x F l).2)) 0 0 0 [(0, .ref (q 0)), (1, .int (jI l))] [] (wModel E q F)
  have r9 : 0 ≤ x 9 0 ∧ x 9 0 ≤ 8 := hx 9
  have r0 : ∀ i, 0 ≤ x 0 i ∧ x 0 i < 404000 := hx 0
  have r1 : ∀ i, 0 ≤ x 1 i ∧ x 1 i ≤ 3 := hx 1
  have r2 : ∀ i, 0 ≤ x 2 i ∧ x 2 i ≤ 2 := hx 2
  have r3 : ∀ i, -1 ≤ x 3 i ∧ x 3 i ≤ 4 := hx 3
  have r4 : ∀ i, 0 ≤ x 4 i ∧ x 4 i < 404000 := hx 4
  have r5 : ∀ i, 0 ≤ x 5 i ∧ x 5 i ≤ 512 ∧ (i < 4 → x 5 i ≤ 20) := hx 5
  have r6 : ∀ i, 0 ≤ x 6 i ∧ x 6 i < 404000 := hx 6
  have hrr := Rel_RelR hr
  have c0 := Rel_cup0 hr
  have s4 : x 9 0 = F 0 4 := hr.2.2.1.1
  have r20 := r2 0
  have q1 : (0 ≤ l ∧ l ≤ 4 ∧ (if 0 ≤ l ∧ l ≤ 4 then (1 : Int) else 0) = 1) ∨ (¬ (0 ≤ l ∧ l ≤ 4) ∧ (if 0 ≤ l ∧ l ≤ 4 then (1 : Int) else 0) = 0) := by split <;> omega
  refine j_iload_n 1 1 dX8_empty_0 rfl rfl ?_
  refine j_iconst 2 dX8_empty_1 rfl ?_
  refine j_iconst 3 dX8_empty_2 rfl ?_
  refine j_callSi [] 6 [_, _, _, _, _, _, _] (c_X8_in E _ _ _ (by omega) (by omega) (by omega)) rfl kX8_empty_X8_in rfl rfl rfl rfl rfl (Nat.le_of_ble_eq_true rfl) (by decide) dX8_empty_3 rfl ?_
  refine j_if_ne 11 9 dX8_empty_6 rfl (by decide) (by omega) (fun h_6 => ?_) (fun h_6 => ?_)
  · skip
    have e : rEmpty x F l = (x 5 l, jS (fCh F) 0 (fEmpty (F 0) l)) := if_pos (by omega)
    rw [e]
    refine j_aload_n 0 12 dX8_empty_11 rfl rfl ?_
    refine j_callVv 0 [0, 1, 2, 3, 4, 5, 6] 15 [_, _, _, _, _, _, _] (c_X8_changes E _ _ (by omega)) rfl kX8_empty_X8_changes rfl rfl rfl rfl rfl rfl rfl (Nat.le_of_ble_eq_true rfl) (by decide) dX8_empty_12 rfl ?_
    have bl := (hr.2.2.2.2.1 l (by omega) (by omega)).1
    have n175 : jU (F 0) (85 + l) 0 175 = F 0 175 := jU_ne (by omega)
    have r5l := r5 l
    refine j_aload_n 0 16 dX8_empty_15 rfl rfl ?_
    refine j_get 0 0 1 19 in_X8_empty_X8 dX8_empty_16 rfl rfl rfl (by decide) rfl rfl ?_
    refine j_bipush 21 dX8_empty_19 rfl (by decide) ?_
    refine j_iload_n 1 22 dX8_empty_21 rfl rfl ?_
    refine j_iadd 23 dX8_empty_22 rfl ?_
    refine j_iald 1 24 dX8_empty_23 rfl rfl (by decide) (by omega) ?_
    refine j_istore_n 25 [_, _, _] dX8_empty_24 rfl (by decide) rfl ?_
    refine j_aload_n 1 26 dX8_empty_25 rfl rfl ?_
    refine j_get 0 0 1 29 in_X8_empty_X8 dX8_empty_26 rfl rfl rfl (by decide) rfl rfl ?_
    refine j_bipush 31 dX8_empty_29 rfl (by decide) ?_
    refine j_iload_n 2 32 dX8_empty_31 rfl rfl ?_
    refine j_iadd 33 dX8_empty_32 rfl ?_
    refine j_iconst 34 dX8_empty_33 rfl ?_
    refine j_iast 1 35 [_, _, _, _, _, _, _] dX8_empty_34 rfl rfl (by decide) (by omega) rfl ?_
    refine j_aload_n 1 36 dX8_empty_35 rfl rfl ?_
    refine j_get 0 0 1 39 in_X8_empty_X8 dX8_empty_36 rfl rfl rfl (by decide) rfl rfl ?_
    refine j_sipush 42 dX8_empty_39 rfl (by decide) ?_
    refine j_dup2 43 dX8_empty_42 rfl rfl rfl ?_
    refine j_iald 1 44 dX8_empty_43 rfl rfl (by decide) (by omega) ?_
    change jG _ E C _ 0 0 44 _ (.int (jI (jU (F 0) (85 + l) 0 175)) :: _) _
    rw [n175]
    refine j_iload_n 0 45 dX8_empty_44 rfl rfl ?_
    refine j_iadd 46 dX8_empty_45 rfl ?_
    refine j_iast 1 47 [_, _, _, _, _, _, _] dX8_empty_46 rfl rfl (by decide) (by omega) rfl ?_
    refine j_iload_n 0 48 dX8_empty_47 rfl rfl ?_
    change jG _ E C _ 0 0 48 _ (.int (jI (F 0 (85 + l))) :: _) (wModel E q (jS (fCh F) 0 (fEmpty (F 0) l)))
    rw [← bl]
    exact j_iret dX8_empty_48 rfl (by first | rfl | (exfalso; omega)) (by rfl)
  · skip
    have e : rEmpty x F l = (-1, F) := if_neg (by omega)
    rw [e]
    refine j_iconst 10 dX8_empty_9 rfl ?_
    exact j_iret dX8_empty_10 rfl (by first | rfl | (exfalso; omega)) (by rfl)
