/-! the two sides call by call -/
theorem Rel_rules {x x' : Nat → Int → Int} {f f' : Int → Int} (hx : sOK x) (h : Rel x f) (e7 : x' 7 = x 7) (e8 : x' 8 = x 8) (e2 : x' 2 = x 2) (e3 : x' 3 = x 3) (e4 : x' 4 = x 4) (e5 : x' 5 = x 5) (e6 : x' 6 = x 6) (e9 : ∀ i, 1 ≤ i → x' 9 i = x 9 i) (hf : ∀ k, (k < 4 ∨ 37 ≤ k) → f' k = f k) (rr : rRul x' f') : Rel x' f' := by
  obtain ⟨⟨s0, s1, s2⟩, ⟨w0, w1, w2, w3, w4⟩, -, hc, hb, ⟨c1, c2, c3, c4, c5, c6⟩⟩ := h
  have f3 : f' 3 = f 3 := hf 3 (by omega)
  refine ⟨⟨?_, ?_, ?_⟩, ⟨?_, ?_, ?_, ?_, ?_⟩, rr, rCup_kept hx hc e2 e3 e4 (fun k _ _ => hf k (by omega)), rBox_kept hx hb e5 e6 (fun k _ _ => hf k (by omega)), ⟨?_, ?_, ?_, ?_, ?_, ?_⟩⟩
  · rw [e7, hf _ (by omega)]; exact s0
  · rw [e7, hf _ (by omega)]; exact s1
  · rw [e7, hf _ (by omega)]; exact s2
  · rw [f3]; exact w0
  · rw [e8, f3]; exact w1
  · rw [e8, f3]; exact w2
  · rw [e8, f3]; exact w3
  · rw [e8, f3]; exact w4
  · rw [e9 _ (by omega), hf _ (by omega)]; exact c1
  · rw [e9 _ (by omega), hf _ (by omega)]; exact c2
  · rw [e9 _ (by omega), hf _ (by omega)]; exact c3
  · rw [e9 _ (by omega), hf _ (by omega)]; exact c4
  · rw [e9 _ (by omega), hf _ (by omega)]; exact c5
  · rw [e9 _ (by omega), hf _ (by omega)]; exact c6
theorem fRule_k (f : Int → Int) {p a r b l i j : Int} (hp : 0 ≤ p ∧ p ≤ f 4) (hi : 0 ≤ i ∧ i ≤ f 4) (hj : 0 ≤ j ∧ j < 4) : fRule f p a r b l (5 + 4 * i + j) = if i = p then (if j = 0 then a else if j = 1 then r else if j = 2 then b else l) else if p < i then f (5 + 4 * (i - 1) + j) else f (5 + 4 * i + j) := by
  unfold fRule
  rw [jU_ne (by omega)]
  unfold fRl
  by_cases q : i = p
  · subst q
    rw [if_pos rfl]
    rcases (show j = 0 ∨ j = 1 ∨ j = 2 ∨ j = 3 by omega) with rfl | rfl | rfl | rfl
    · rw [if_pos rfl, jU_ne (by omega), jU_ne (by omega), jU_ne (by omega), show 5 + 4 * i + 0 = 5 + 4 * i by omega, jU_at]
    · rw [if_neg (by omega), if_pos rfl, jU_ne (by omega), jU_ne (by omega), jU_at]
    · rw [if_neg (by omega), if_neg (by omega), if_pos rfl, jU_ne (by omega), jU_at]
    · rw [if_neg (by omega), if_neg (by omega), if_neg (by omega), jU_at]
  · rw [if_neg q, jU_ne (by omega), jU_ne (by omega), jU_ne (by omega), jU_ne (by omega)]
    unfold sh1
    by_cases q2 : p < i
    · rw [if_pos q2, if_pos (by omega)]
      congr 1
      omega
    · rw [if_neg q2, if_neg (by omega)]
theorem Rel_rule {x : Nat → Int → Int} {f : Int → Int} {p a r b l : Int} (hx : sOK x) (h : Rel x f) (hp : 0 ≤ p ∧ p ≤ x 9 0) (h8 : x 9 0 < 8) (ha : 50 ≤ a ∧ a ≤ 300) (hr : 0 ≤ r ∧ r ≤ 100) (hb : 0 ≤ b ∧ b ≤ 9) : Rel (sRule x p (tOf a r b) l) (fRule f p a r b l) := by
  have r9 : 0 ≤ x 9 0 ∧ x 9 0 ≤ 8 := hx 9
  have s4 : x 9 0 = f 4 := h.2.2.1.1
  obtain ⟨t1, t2, t3⟩ := tOf_parts (a := a) (r := r) (b := b) (by omega) hr hb
  have e9 : sRule x p (tOf a r b) l 9 = jU (x 9) 0 (x 9 0 + 1) := rfl
  have e0 : sRule x p (tOf a r b) l 0 = rIns (x 0) p (x 9 0) (tOf a r b) := rfl
  have e1 : sRule x p (tOf a r b) l 1 = rIns (x 1) p (x 9 0) l := rfl
  have f4 : fRule f p a r b l 4 = f 4 + 1 := by unfold fRule; rw [jU_at]
  refine Rel_rules hx h rfl rfl rfl rfl rfl rfl rfl (fun i hi => by rw [e9, jU_ne (by omega)]) (fun k hk => ?_) ⟨?_, fun i h0 h1 => ?_⟩
  · unfold fRule fRl
    rw [jU_ne (by omega), jU_ne (by omega), jU_ne (by omega), jU_ne (by omega), jU_ne (by omega)]
    unfold sh1
    rw [if_neg (by omega)]
  · rw [e9, jU_at, f4, s4]
  · rw [e9, jU_at] at h1
    have k0 := fRule_k f (p := p) (a := a) (r := r) (b := b) (l := l) (i := i) (j := 0) (by omega) (by omega) (by omega)
    have k1 := fRule_k f (p := p) (a := a) (r := r) (b := b) (l := l) (i := i) (j := 1) (by omega) (by omega) (by omega)
    have k2 := fRule_k f (p := p) (a := a) (r := r) (b := b) (l := l) (i := i) (j := 2) (by omega) (by omega) (by omega)
    have k3 := fRule_k f (p := p) (a := a) (r := r) (b := b) (l := l) (i := i) (j := 3) (by omega) (by omega) (by omega)
    rw [Int.add_zero] at k0
    rw [e0, e1, k0, k1, k2, k3]
    by_cases q : i = p
    · have a0 : rIns (x 0) p (x 9 0) (tOf a r b) i = tOf a r b := if_pos q
      have a1 : rIns (x 1) p (x 9 0) l i = l := if_pos q
      rw [a0, a1, if_pos q, if_pos q, if_pos q, if_pos q, t1, t2, t3]
      exact ⟨rfl, rfl, rfl, rfl⟩
    · by_cases q2 : p < i
      · have a0 : rIns (x 0) p (x 9 0) (tOf a r b) i = x 0 (i - 1) := by unfold rIns; rw [if_neg q, if_pos ⟨q2, by omega⟩]
        have a1 : rIns (x 1) p (x 9 0) l i = x 1 (i - 1) := by unfold rIns; rw [if_neg q, if_pos ⟨q2, by omega⟩]
        rw [a0, a1, if_neg q, if_neg q, if_neg q, if_neg q, if_pos q2, if_pos q2, if_pos q2, if_pos q2]
        have g := h.2.2.1.2 (i - 1) (by omega) (by omega)
        rw [Int.add_zero]
        exact g
      · have a0 : rIns (x 0) p (x 9 0) (tOf a r b) i = x 0 i := by unfold rIns; rw [if_neg q, if_neg (by omega)]
        have a1 : rIns (x 1) p (x 9 0) l i = x 1 i := by unfold rIns; rw [if_neg q, if_neg (by omega)]
        rw [a0, a1, if_neg q, if_neg q, if_neg q, if_neg q, if_neg q2, if_neg q2, if_neg q2, if_neg q2]
        exact h.2.2.1.2 i h0 (by omega)
theorem Rel_out {x : Nat → Int → Int} {f : Int → Int} {r : Int} (hx : sOK x) (h : Rel x f) (hr : 0 ≤ r ∧ r < x 9 0) : Rel (sOut x r) (fOut f r) ∧ sOK (sOut x r) := by
  have r9 : 0 ≤ x 9 0 ∧ x 9 0 ≤ 8 := hx 9
  have r0 : ∀ i, 0 ≤ x 0 i ∧ x 0 i < 404000 := hx 0
  have r1 : ∀ i, 0 ≤ x 1 i ∧ x 1 i ≤ 3 := hx 1
  have s4 : x 9 0 = f 4 := h.2.2.1.1
  have e9 : sOut x r 9 = jU (x 9) 0 (x 9 0 - 1) := rfl
  have e0 : sOut x r 0 = rOut (x 0) r (x 9 0) := rfl
  have e1 : sOut x r 1 = rOut (x 1) r (x 9 0) := rfl
  have fk : ∀ k, k ≠ 4 → fOut f r k = if 5 + 4 * r ≤ k ∧ k < 5 + 4 * (f 4 - 1) then f (k + 4) else f k := fun k hk => by
    unfold fOut shD
    split
    · rw [jU_ne (by omega)]
    · rw [jU_ne hk]
  refine ⟨Rel_rules hx h rfl rfl rfl rfl rfl rfl rfl (fun i hi => by rw [e9, jU_ne (by omega)]) (fun k hk => ?_) ⟨?_, fun i h0 h1 => ?_⟩, ?_⟩
  · rw [fk _ (by omega), if_neg (by omega)]
  · rw [e9, jU_at]
    unfold fOut shD
    rw [if_neg (by omega), jU_at, s4]
  · rw [e9, jU_at] at h1
    rw [e0, e1, fk _ (by omega), fk _ (by omega), fk _ (by omega), fk _ (by omega)]
    by_cases q : r ≤ i
    · have a0 : rOut (x 0) r (x 9 0) i = x 0 (i + 1) := if_pos ⟨q, by omega⟩
      have a1 : rOut (x 1) r (x 9 0) i = x 1 (i + 1) := if_pos ⟨q, by omega⟩
      rw [a0, a1, if_pos (by omega), if_pos (by omega), if_pos (by omega), if_pos (by omega)]
      have g := h.2.2.1.2 (i + 1) (by omega) (by omega)
      rw [show 5 + 4 * i + 4 = 5 + 4 * (i + 1) by omega, show 5 + 4 * i + 1 + 4 = 5 + 4 * (i + 1) + 1 by omega, show 5 + 4 * i + 2 + 4 = 5 + 4 * (i + 1) + 2 by omega, show 5 + 4 * i + 3 + 4 = 5 + 4 * (i + 1) + 3 by omega]
      exact g
    · have a0 : rOut (x 0) r (x 9 0) i = x 0 i := if_neg (by omega)
      have a1 : rOut (x 1) r (x 9 0) i = x 1 i := if_neg (by omega)
      rw [a0, a1, if_neg (by omega), if_neg (by omega), if_neg (by omega), if_neg (by omega)]
      exact h.2.2.1.2 i h0 (by omega)
  · unfold sOut
    refine sOK_S (sOK_S (sOK_S hx ?_) ?_) ?_
    · show ∀ i, 0 ≤ rOut (x 0) r (x 9 0) i ∧ rOut (x 0) r (x 9 0) i < 404000
      intro i
      unfold rOut
      split
      · exact r0 _
      · exact r0 _
    · show ∀ i, 0 ≤ rOut (x 1) r (x 9 0) i ∧ rOut (x 1) r (x 9 0) i ≤ 3
      intro i
      unfold rOut
      split
      · exact r1 _
      · exact r1 _
    · show 0 ≤ jU (x 9) 0 (x 9 0 - 1) 0 ∧ jU (x 9) 0 (x 9 0 - 1) 0 ≤ 8
      rw [jU_at]; omega
theorem Rel_water {x : Nat → Int → Int} {f : Int → Int} {l : Int} (hx : sOK x) (h : Rel x f) (hl : 0 ≤ l ∧ l < 4) : Rel (jS x 8 (jU (x 8) l (1 - x 8 l))) (jU f 3 (wXor (f 3) l)) := by
  have jx := jXor (f 3) l h.2.1.1 hl
  have wl := rWat_at h.2.1 hl
  have key : ∀ k, 0 ≤ k → k < 4 → jU (x 8) l (1 - x 8 l) k = wXor (f 3) l / 2 ^ k.toNat % 2 := fun k h0 h1 => by
    by_cases q : k = l
    · subst q
      rw [jU_at, jx.1.2.2, wl]
    · rw [jU_ne q, rWat_at h.2.1 ⟨h0, h1⟩, jx.2 k ⟨h0, h1⟩ q]
  obtain ⟨⟨s0, s1, s2⟩, -, ⟨u0, u1⟩, hc, hb, ⟨c1, c2, c3, c4, c5, c6⟩⟩ := h
  have r9 : 0 ≤ x 9 0 ∧ x 9 0 ≤ 8 := hx 9
  have z : ∀ k, k ≠ 3 → jU f 3 (wXor (f 3) l) k = f k := fun k hk => jU_ne hk
  refine ⟨⟨?_, ?_, ?_⟩, ⟨?_, ?_, ?_, ?_, ?_⟩, ⟨?_, fun i h0 h1 => ?_⟩, rCup_kept hx hc rfl rfl rfl (fun k _ _ => z k (by omega)), rBox_kept hx hb rfl rfl (fun k _ _ => z k (by omega)), ⟨?_, ?_, ?_, ?_, ?_, ?_⟩⟩
  · rw [z _ (by omega)]; exact s0
  · rw [z _ (by omega)]; exact s1
  · rw [z _ (by omega)]; exact s2
  · rw [jU_at]; exact jx.1.2.1
  · have k := key 0 (by omega) (by omega)
    rw [jU_at]
    rw [show (2 : Int) ^ (0 : Int).toNat = 1 from rfl] at k
    show jU (x 8) l (1 - x 8 l) 0 = _
    omega
  · have k := key 1 (by omega) (by omega)
    rw [jU_at]
    exact k
  · have k := key 2 (by omega) (by omega)
    rw [jU_at]
    exact k
  · have k := key 3 (by omega) (by omega)
    rw [jU_at]
    exact k
  · rw [z _ (by omega)]; exact u0
  · have h1' : i < x 9 0 := h1
    rw [z _ (by omega), z _ (by omega), z _ (by omega), z _ (by omega)]
    exact u1 i h0 h1'
  · rw [z _ (by omega)]; exact c1
  · rw [z _ (by omega)]; exact c2
  · rw [z _ (by omega)]; exact c3
  · rw [z _ (by omega)]; exact c4
  · rw [z _ (by omega)]; exact c5
  · rw [z _ (by omega)]; exact c6
theorem Rel_empty {x : Nat → Int → Int} {f : Int → Int} {l : Int} (hx : sOK x) (h : Rel x f) (hl : 0 ≤ l ∧ l ≤ 4) : Rel (sEmpty x l) (fEmpty f l) := by
  have ek : ∀ k, k ≠ 85 + l → k ≠ 175 → fEmpty f l k = f k := fun k h1 h2 => by unfold fEmpty; rw [jU_ne h2, jU_ne h1]
  have el : fEmpty f l (85 + l) = 0 := by unfold fEmpty; rw [jU_ne (by omega), jU_at]
  have e175 : fEmpty f l 175 = f 175 + f (85 + l) := by unfold fEmpty; rw [jU_at]
  have r5 : ∀ i, 0 ≤ x 5 i ∧ x 5 i ≤ 512 ∧ (i < 4 → x 5 i ≤ 20) := hx 5
  obtain ⟨a, b, c⟩ := Rel_low (x' := sEmpty x l) (f' := fEmpty f l) hx h rfl rfl rfl rfl rfl (fun k _ _ => ek k (by omega) (by omega))
  refine ⟨a, b, c, rCup_kept hx h.2.2.2.1 rfl rfl rfl (fun k _ _ => ek k (by omega) (by omega)), fun m h0 h1 => ?_, ?_⟩
  · obtain ⟨u, v⟩ := h.2.2.2.2.1 m h0 h1
    have r5m := r5 m
    have e5 : sEmpty x l 5 = jU (x 5) l 0 := rfl
    have e6 : sEmpty x l 6 = x 6 := rfl
    have bb : 90 ≤ bxA m ∧ (bxA m + x 5 m ≤ 170 ∨ 176 ≤ bxA m) := by unfold bxA; split <;> omega
    rw [e5, e6]
    by_cases q : m = l
    · subst q
      rw [jU_at, el]
      exact ⟨rfl, fun j j0 j1 => absurd j1 (by omega)⟩
    · rw [jU_ne q, ek _ (by omega) (by omega)]
      refine ⟨u, fun j j0 j1 => ?_⟩
      rw [ek _ (by omega) (by omega)]
      exact v j j0 j1
  · obtain ⟨c1, c2, c3, c4, c5, c6⟩ := h.2.2.2.2.2
    have bl := (h.2.2.2.2.1 l hl.1 hl.2).1
    have e9 : sEmpty x l 9 = jU (x 9) 6 (x 9 6 + x 5 l) := rfl
    unfold rCnt
    rw [e9, jU_ne (by omega), jU_ne (by omega), jU_ne (by omega), jU_ne (by omega), jU_ne (by omega), jU_at, e175, ek _ (by omega) (by omega), ek _ (by omega) (by omega), ek _ (by omega) (by omega), ek _ (by omega) (by omega), ek _ (by omega) (by omega), c6, bl]
    exact ⟨c1, c2, c3, c4, c5, rfl⟩
theorem Rel_setting {x : Nat → Int → Int} {f : Int → Int} {w a : Int} (hx : sOK x) (h : Rel x f) (hw : 0 ≤ w ∧ w ≤ 2) : Rel (jS x 7 (jU (x 7) w a)) (jU f w a) := by
  have r9 : 0 ≤ x 9 0 ∧ x 9 0 ≤ 8 := hx 9
  have z : ∀ k, 3 ≤ k → jU f w a k = f k := fun k hk => jU_ne (by omega)
  obtain ⟨⟨s0, s1, s2⟩, ⟨w0, w1, w2, w3, w4⟩, ⟨u0, u1⟩, hc, hb, ⟨c1, c2, c3, c4, c5, c6⟩⟩ := h
  have key : ∀ i, x 7 i = f i → jU (x 7) w a i = jU f w a i := fun i hi => by
    by_cases q : i = w
    · subst q; rw [jU_at, jU_at]
    · rw [jU_ne q, jU_ne q]; exact hi
  refine ⟨⟨key 0 s0, key 1 s1, key 2 s2⟩, ⟨?_, ?_, ?_, ?_, ?_⟩, ⟨?_, fun i h0 h1 => ?_⟩, rCup_kept hx hc rfl rfl rfl (fun k _ _ => z k (by omega)), rBox_kept hx hb rfl rfl (fun k _ _ => z k (by omega)), ⟨?_, ?_, ?_, ?_, ?_, ?_⟩⟩
  · rw [z _ (by omega)]; exact w0
  · rw [z _ (by omega)]; exact w1
  · rw [z _ (by omega)]; exact w2
  · rw [z _ (by omega)]; exact w3
  · rw [z _ (by omega)]; exact w4
  · rw [z _ (by omega)]; exact u0
  · have h1' : i < x 9 0 := h1
    rw [z _ (by omega), z _ (by omega), z _ (by omega), z _ (by omega)]
    exact u1 i h0 h1'
  · rw [z _ (by omega)]; exact c1
  · rw [z _ (by omega)]; exact c2
  · rw [z _ (by omega)]; exact c3
  · rw [z _ (by omega)]; exact c4
  · rw [z _ (by omega)]; exact c5
  · rw [z _ (by omega)]; exact c6
theorem sRls_rows (x : Nat → Int → Int) (y z : Int → Int) : ∀ n : Nat, (∀ i, 0 ≤ i → i < (n : Int) → sRls x y z n 0 i = y i ∧ sRls x y z n 1 i = z i) ∧ (∀ k : Nat, k ≠ 0 → k ≠ 1 → k ≠ 9 → sRls x y z n k = x k) ∧ ∀ i, 1 ≤ i → sRls x y z n 9 i = x 9 i := by
  intro n
  induction n with
  | zero => exact ⟨fun i h0 h1 => absurd h1 (by omega), fun k _ _ h9 => jS_ne h9, fun i hi => jU_ne (by omega)⟩
  | succ n ih =>
    obtain ⟨a, b, c⟩ := ih
    have e9 := sRls_9 x y z n
    have e0 : sRls x y z (n + 1) 0 = rIns (sRls x y z n 0) n (sRls x y z n 9 0) (y n) := rfl
    have e1 : sRls x y z (n + 1) 1 = rIns (sRls x y z n 1) n (sRls x y z n 9 0) (z n) := rfl
    have e99 : sRls x y z (n + 1) 9 = jU (sRls x y z n 9) 0 (sRls x y z n 9 0 + 1) := rfl
    refine ⟨fun i h0 h1 => ?_, fun k h0 h1 h9 => ?_, fun i hi => ?_⟩
    · rw [e0, e1, e9, rIns_end, rIns_end]
      by_cases q : i = n
      · subst q
        rw [jU_at, jU_at]; exact ⟨rfl, rfl⟩
      · rw [jU_ne q, jU_ne q]
        exact a i h0 (by omega)
    · show jS (jS (jS (sRls x y z n) 0 _) 1 _) 9 _ k = x k
      rw [jS_ne h9, jS_ne h1, jS_ne h0]
      exact b k h0 h1 h9
    · rw [e99, jU_ne (by omega)]
      exact c i hi
theorem Rel_rls {x : Nat → Int → Int} {f y z r : Int → Int} {m : Int} (hx : sOK x) (h : Rel x f) (hm : 0 ≤ m ∧ m ≤ 8) (pr : PRR m y z r) : Rel (sRls x y z m.toNat) (jU (fRc f r (4 * m)) 4 m) := by
  obtain ⟨a, b, c⟩ := sRls_rows x y z m.toNat
  have e9 := sRls_9 x y z m.toNat
  have em : (m.toNat : Int) = m := by omega
  rw [em] at e9 a
  refine Rel_rules hx h (b 7 (by omega) (by omega) (by omega)) (b 8 (by omega) (by omega) (by omega)) (b 2 (by omega) (by omega) (by omega)) (b 3 (by omega) (by omega) (by omega)) (b 4 (by omega) (by omega) (by omega)) (b 5 (by omega) (by omega) (by omega)) (b 6 (by omega) (by omega) (by omega)) c (fun k hk => ?_) ⟨?_, fun i h0 h1 => ?_⟩
  · rw [jU_ne (by omega)]
    unfold fRc
    rw [if_neg (by omega)]
  · rw [e9, jU_at]
  · rw [e9] at h1
    obtain ⟨a0, a1⟩ := a i h0 h1
    obtain ⟨p1, p2, p3, p4, p5⟩ := pr i h0 h1
    obtain ⟨t1, t2, t3⟩ := tOf_parts (a := r (5 * i + 1)) (r := r (5 * i + 2)) (b := r (5 * i + 3)) (by omega) p2 p3
    have k : ∀ j, 0 ≤ j → j < 4 → jU (fRc f r (4 * m)) 4 m (5 + 4 * i + j) = r (5 * i + 1 + j) := fun j j0 j1 => by
      rw [jU_ne (by omega)]
      unfold fRc
      rw [if_pos (by omega)]
      congr 1
      omega
    have k0 := k 0 (by omega) (by omega)
    have k1 := k 1 (by omega) (by omega)
    have k2 := k 2 (by omega) (by omega)
    have k3 := k 3 (by omega) (by omega)
    rw [Int.add_zero, Int.add_zero] at k0
    rw [a0, a1, p4, p5, t1, t2, t3, k0, k1, k2, k3, show 5 * i + 1 + 1 = 5 * i + 2 by omega, show 5 * i + 1 + 2 = 5 * i + 3 by omega, show 5 * i + 1 + 3 = 5 * i + 4 by omega]
    exact ⟨rfl, rfl, rfl, rfl⟩
