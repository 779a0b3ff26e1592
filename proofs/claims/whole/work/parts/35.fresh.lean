/-! new objects on both sides -/
def zF : Int → Int := fun _ => 0
def sNew : Nat → Int → Int := fun k => match k with
  | 3 => fun _ => -1
  | 7 => jU (jU zF 1 1) 2 10
  | 8 => fun _ => 1
  | _ => zF
def fNew : Int → Int := jU (jU (jU zF 1 1) 2 10) 3 15
def FNew : Nat → Int → Int := fun k => cond (Nat.beq k 0) fNew zF
theorem sNew_ok : sOK sNew := by
  intro k
  match k with
  | 0 => exact fun i => ⟨by show (0 : Int) ≤ 0; omega, by show (0 : Int) < 404000; omega⟩
  | 1 => exact fun i => ⟨by show (0 : Int) ≤ 0; omega, by show (0 : Int) ≤ 3; omega⟩
  | 2 => exact fun i => ⟨by show (0 : Int) ≤ 0; omega, by show (0 : Int) ≤ 2; omega⟩
  | 3 => exact fun i => ⟨by show (-1 : Int) ≤ -1; omega, by show (-1 : Int) ≤ 4; omega⟩
  | 4 => exact fun i => ⟨by show (0 : Int) ≤ 0; omega, by show (0 : Int) < 404000; omega⟩
  | 5 => exact fun i => ⟨by show (0 : Int) ≤ 0; omega, by show (0 : Int) ≤ 512; omega, fun _ => by show (0 : Int) ≤ 20; omega⟩
  | 6 => exact fun i => ⟨by show (0 : Int) ≤ 0; omega, by show (0 : Int) < 404000; omega⟩
  | 7 =>
    show (-20 ≤ jU (jU zF 1 1) 2 10 0 ∧ jU (jU zF 1 1) 2 10 0 ≤ 20) ∧ (0 ≤ jU (jU zF 1 1) 2 10 1 ∧ jU (jU zF 1 1) 2 10 1 ≤ 9) ∧ (1 ≤ jU (jU zF 1 1) 2 10 2 ∧ jU (jU zF 1 1) 2 10 2 ≤ 20)
    decide
  | 8 => exact fun i => Or.inr rfl
  | 9 => exact ⟨by show (0 : Int) ≤ 0; omega, by show (0 : Int) ≤ 8; omega⟩
  | k + 10 => exact trivial
theorem sNew_inv : sInv sNew 0 := by
  refine ⟨sNew_ok, ⟨rfl, fun p h => absurd h ?_⟩, ?_⟩
  · show ¬ (0 : Int) ≤ -1
    omega
  · have : sTot sNew = 0 := by decide
    omega
theorem fNew_0 {k : Int} (h : k ≠ 1 ∧ k ≠ 2 ∧ k ≠ 3) : fNew k = 0 := by
  unfold fNew
  rw [jU_ne h.2.2, jU_ne h.2.1, jU_ne h.1]; rfl
theorem Rel_new : Rel sNew fNew := by
  refine ⟨⟨?_, ?_, ?_⟩, ⟨?_, ?_, ?_, ?_, ?_⟩, ⟨?_, fun i h0 h1 => absurd h1 ?_⟩, fun p h0 h1 => ⟨?_, ?_, fun j j0 j1 => absurd j1 ?_⟩, fun l h0 h1 => ⟨?_, fun j j0 j1 => absurd j1 ?_⟩, ⟨?_, ?_, ?_, ?_, ?_, ?_⟩⟩
  · decide
  · decide
  · decide
  · decide
  · decide
  · decide
  · decide
  · decide
  · decide
  · show ¬ i < 0
    omega
  · rw [fNew_0 (by omega)]; rfl
  · rw [fNew_0 (by omega)]; rfl
  · show ¬ j < 0
    omega
  · rw [fNew_0 (by omega)]; rfl
  · show ¬ j < 0
    omega
  · decide
  · decide
  · decide
  · decide
  · decide
  · decide
theorem Inv_new : Inv 0 (fun _ => sNew) (fun _ => sNew) (fun _ => zF) zF FNew := by
  have st : sSt sNew 0 0 := ⟨sNew_inv, by show (0 : Int) ≤ 0; omega, by show (0 : Int) ≤ 200 * 0; omega⟩
  refine ⟨⟨fun _ => sNew_ok, fun _ => sNew_ok, by decide, by decide, by decide, by decide, fun i => ⟨by show (0 : Int) ≤ 0; omega, by show (0 : Int) < 1000; omega⟩⟩, ⟨st, st, fun _ => st⟩, Rel_new, fun h => absurd h (by decide), ⟨rfl, rfl, rfl⟩, fun k h0 h1 => absurd h1 ?_, rfl, fun i => ⟨by show (0 : Int) ≤ 0; omega, by show (0 : Int) < 1000; omega⟩⟩
  show ¬ k < 0
  omega
