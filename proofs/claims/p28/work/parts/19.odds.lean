/-! settings and new rows -/
def setLo (w : Int) : Int := if w = 0 then -20 else if w = 1 then 0 else 1
def setHi (w : Int) : Int := if w = 1 then 9 else 20
/-! each call answers the same on both sides, and leaves them alike -/
def mSet (S H : Nat → Nat → Int → Int) (P : Nat → Int → Int) (v : Int → Int) (w a : Int) : Int × cSt := if w < 0 ∨ 2 < w ∨ a < setLo w ∨ setHi w < a then (-1, S, H, P, v) else (if w = 0 then S 0 7 w + 20 else S 0 7 w, cU S 0 (jS (S 0) 7 (jU (S 0 7) w a)), kH S H v, P, kV v)
/-! new objects on both sides -/
def zF : Int → Int := fun _ => 0
def sNew : Nat → Int → Int := fun k => match k with
  | 3 => fun _ => -1
  | 7 => jU (jU zF 1 1) 2 10
  | 8 => fun _ => 1
  | _ => zF
theorem sNew_ok : sOK sNew := by
  intro k
  match k with
  | 0 => exact fun i => ⟨by show (0 : Int) ≤ 0; omega, by show (0 : Int) < 404000; omega⟩
  | 1 => exact fun i => ⟨by show (0 : Int) ≤ 0; omega, by show (0 : Int) ≤ 3; omega⟩
  | 2 => exact fun i => ⟨by show (0 : Int) ≤ 0; omega, by show (0 : Int) ≤ 2; omega⟩
  | 3 => exact fun i => ⟨by show (-1 : Int) ≤ -1; omega, by show (-1 : Int) ≤ 4; omega⟩
  | 4 => exact fun i => ⟨by show (0 : Int) ≤ 0; omega, by show (0 : Int) < 404000; omega⟩
  | 5 => exact fun i => ⟨by show (0 : Int) ≤ 0; omega, by show (0 : Int) ≤ 512; omega, fun _ => by show (0 : Int) ≤ 20; omega⟩
  | 6 => exact fun i => ⟨by show (0 : Int) ≤ 0; omega, by show (0 : Int) < 404000; omega⟩
  | 7 =>
    show (-20 ≤ jU (jU zF 1 1) 2 10 0 ∧ jU (jU zF 1 1) 2 10 0 ≤ 20) ∧ (0 ≤ jU (jU zF 1 1) 2 10 1 ∧ jU (jU zF 1 1) 2 10 1 ≤ 9) ∧ (1 ≤ jU (jU zF 1 1) 2 10 2 ∧ jU (jU zF 1 1) 2 10 2 ≤ 20)
    decide
  | 8 => exact fun i => Or.inr rfl
  | 9 => exact ⟨by show (0 : Int) ≤ 0; omega, by show (0 : Int) ≤ 8; omega⟩
  | k + 10 => exact trivial
theorem sNew_inv : sInv sNew 0 := by
  refine ⟨sNew_ok, ⟨rfl, fun p h => absurd h ?_⟩, ?_⟩
  · show ¬ (0 : Int) ≤ -1
    omega
  · have : sTot sNew = 0 := by decide
    omega
