theorem tg_vin {i : Int32} {n : Nat} (h : ¬ (i < 0 ∨ n ≤ i.toNatClampNeg)) : vp_in i n := h
def tg_im (a b : Nat) : Nat → Option Nat := fun k => if k = 0 then some a else if k = 1 then some b else none
def tg_b1 {A0 Z : Type} (x : Option (A0)) (k : A0 → Option Z) : Option Z := x.bind k
theorem tg_b1_e {A0 Z : Type} {x : Option (A0)} {k : A0 → Option Z} {z : Z} (h : tg_b1 x k = some z) : ∃ (a0 : A0), x = some a0 ∧ k a0 = some z := by
  cases x with
  | none => cases h
  | some p => exact ⟨p, rfl, h⟩
def tg_b2 {A0 A1 Z : Type} (x : Option (A0 × A1)) (k : A0 → A1 → Option Z) : Option Z := x.bind (fun p => k p.1 p.2)
theorem tg_b2_e {A0 A1 Z : Type} {x : Option (A0 × A1)} {k : A0 → A1 → Option Z} {z : Z} (h : tg_b2 x k = some z) : ∃ (a0 : A0) (a1 : A1), x = some (a0, a1) ∧ k a0 a1 = some z := by
  cases x with
  | none => cases h
  | some p => exact ⟨p.1, p.2, rfl, h⟩
def tg_b3 {A0 A1 A2 Z : Type} (x : Option (A0 × A1 × A2)) (k : A0 → A1 → A2 → Option Z) : Option Z := x.bind (fun p => k p.1 p.2.1 p.2.2)
theorem tg_b3_e {A0 A1 A2 Z : Type} {x : Option (A0 × A1 × A2)} {k : A0 → A1 → A2 → Option Z} {z : Z} (h : tg_b3 x k = some z) : ∃ (a0 : A0) (a1 : A1) (a2 : A2), x = some (a0, a1, a2) ∧ k a0 a1 a2 = some z := by
  cases x with
  | none => cases h
  | some p => exact ⟨p.1, p.2.1, p.2.2, rfl, h⟩
def tg_b4 {A0 A1 A2 A3 Z : Type} (x : Option (A0 × A1 × A2 × A3)) (k : A0 → A1 → A2 → A3 → Option Z) : Option Z := x.bind (fun p => k p.1 p.2.1 p.2.2.1 p.2.2.2)
theorem tg_b4_e {A0 A1 A2 A3 Z : Type} {x : Option (A0 × A1 × A2 × A3)} {k : A0 → A1 → A2 → A3 → Option Z} {z : Z} (h : tg_b4 x k = some z) : ∃ (a0 : A0) (a1 : A1) (a2 : A2) (a3 : A3), x = some (a0, a1, a2, a3) ∧ k a0 a1 a2 a3 = some z := by
  cases x with
  | none => cases h
  | some p => exact ⟨p.1, p.2.1, p.2.2.1, p.2.2.2, rfl, h⟩
def tg_b5 {A0 A1 A2 A3 A4 Z : Type} (x : Option (A0 × A1 × A2 × A3 × A4)) (k : A0 → A1 → A2 → A3 → A4 → Option Z) : Option Z := x.bind (fun p => k p.1 p.2.1 p.2.2.1 p.2.2.2.1 p.2.2.2.2)
theorem tg_b5_e {A0 A1 A2 A3 A4 Z : Type} {x : Option (A0 × A1 × A2 × A3 × A4)} {k : A0 → A1 → A2 → A3 → A4 → Option Z} {z : Z} (h : tg_b5 x k = some z) : ∃ (a0 : A0) (a1 : A1) (a2 : A2) (a3 : A3) (a4 : A4), x = some (a0, a1, a2, a3, a4) ∧ k a0 a1 a2 a3 a4 = some z := by
  cases x with
  | none => cases h
  | some p => exact ⟨p.1, p.2.1, p.2.2.1, p.2.2.2.1, p.2.2.2.2, rfl, h⟩
def tg_b6 {A0 A1 A2 A3 A4 A5 Z : Type} (x : Option (A0 × A1 × A2 × A3 × A4 × A5)) (k : A0 → A1 → A2 → A3 → A4 → A5 → Option Z) : Option Z := x.bind (fun p => k p.1 p.2.1 p.2.2.1 p.2.2.2.1 p.2.2.2.2.1 p.2.2.2.2.2)
theorem tg_b6_e {A0 A1 A2 A3 A4 A5 Z : Type} {x : Option (A0 × A1 × A2 × A3 × A4 × A5)} {k : A0 → A1 → A2 → A3 → A4 → A5 → Option Z} {z : Z} (h : tg_b6 x k = some z) : ∃ (a0 : A0) (a1 : A1) (a2 : A2) (a3 : A3) (a4 : A4) (a5 : A5), x = some (a0, a1, a2, a3, a4, a5) ∧ k a0 a1 a2 a3 a4 a5 = some z := by
  cases x with
  | none => cases h
  | some p => exact ⟨p.1, p.2.1, p.2.2.1, p.2.2.2.1, p.2.2.2.2.1, p.2.2.2.2.2, rfl, h⟩
def tg_b7 {A0 A1 A2 A3 A4 A5 A6 Z : Type} (x : Option (A0 × A1 × A2 × A3 × A4 × A5 × A6)) (k : A0 → A1 → A2 → A3 → A4 → A5 → A6 → Option Z) : Option Z := x.bind (fun p => k p.1 p.2.1 p.2.2.1 p.2.2.2.1 p.2.2.2.2.1 p.2.2.2.2.2.1 p.2.2.2.2.2.2)
theorem tg_b7_e {A0 A1 A2 A3 A4 A5 A6 Z : Type} {x : Option (A0 × A1 × A2 × A3 × A4 × A5 × A6)} {k : A0 → A1 → A2 → A3 → A4 → A5 → A6 → Option Z} {z : Z} (h : tg_b7 x k = some z) : ∃ (a0 : A0) (a1 : A1) (a2 : A2) (a3 : A3) (a4 : A4) (a5 : A5) (a6 : A6), x = some (a0, a1, a2, a3, a4, a5, a6) ∧ k a0 a1 a2 a3 a4 a5 a6 = some z := by
  cases x with
  | none => cases h
  | some p => exact ⟨p.1, p.2.1, p.2.2.1, p.2.2.2.1, p.2.2.2.2.1, p.2.2.2.2.2.1, p.2.2.2.2.2.2, rfl, h⟩
def tg_b8 {A0 A1 A2 A3 A4 A5 A6 A7 Z : Type} (x : Option (A0 × A1 × A2 × A3 × A4 × A5 × A6 × A7)) (k : A0 → A1 → A2 → A3 → A4 → A5 → A6 → A7 → Option Z) : Option Z := x.bind (fun p => k p.1 p.2.1 p.2.2.1 p.2.2.2.1 p.2.2.2.2.1 p.2.2.2.2.2.1 p.2.2.2.2.2.2.1 p.2.2.2.2.2.2.2)
theorem tg_b8_e {A0 A1 A2 A3 A4 A5 A6 A7 Z : Type} {x : Option (A0 × A1 × A2 × A3 × A4 × A5 × A6 × A7)} {k : A0 → A1 → A2 → A3 → A4 → A5 → A6 → A7 → Option Z} {z : Z} (h : tg_b8 x k = some z) : ∃ (a0 : A0) (a1 : A1) (a2 : A2) (a3 : A3) (a4 : A4) (a5 : A5) (a6 : A6) (a7 : A7), x = some (a0, a1, a2, a3, a4, a5, a6, a7) ∧ k a0 a1 a2 a3 a4 a5 a6 a7 = some z := by
  cases x with
  | none => cases h
  | some p => exact ⟨p.1, p.2.1, p.2.2.1, p.2.2.2.1, p.2.2.2.2.1, p.2.2.2.2.2.1, p.2.2.2.2.2.2.1, p.2.2.2.2.2.2.2, rfl, h⟩
def tg_b9 {A0 A1 A2 A3 A4 A5 A6 A7 A8 Z : Type} (x : Option (A0 × A1 × A2 × A3 × A4 × A5 × A6 × A7 × A8)) (k : A0 → A1 → A2 → A3 → A4 → A5 → A6 → A7 → A8 → Option Z) : Option Z := x.bind (fun p => k p.1 p.2.1 p.2.2.1 p.2.2.2.1 p.2.2.2.2.1 p.2.2.2.2.2.1 p.2.2.2.2.2.2.1 p.2.2.2.2.2.2.2.1 p.2.2.2.2.2.2.2.2)
theorem tg_b9_e {A0 A1 A2 A3 A4 A5 A6 A7 A8 Z : Type} {x : Option (A0 × A1 × A2 × A3 × A4 × A5 × A6 × A7 × A8)} {k : A0 → A1 → A2 → A3 → A4 → A5 → A6 → A7 → A8 → Option Z} {z : Z} (h : tg_b9 x k = some z) : ∃ (a0 : A0) (a1 : A1) (a2 : A2) (a3 : A3) (a4 : A4) (a5 : A5) (a6 : A6) (a7 : A7) (a8 : A8), x = some (a0, a1, a2, a3, a4, a5, a6, a7, a8) ∧ k a0 a1 a2 a3 a4 a5 a6 a7 a8 = some z := by
  cases x with
  | none => cases h
  | some p => exact ⟨p.1, p.2.1, p.2.2.1, p.2.2.2.1, p.2.2.2.2.1, p.2.2.2.2.2.1, p.2.2.2.2.2.2.1, p.2.2.2.2.2.2.2.1, p.2.2.2.2.2.2.2.2, rfl, h⟩
def tg_b10 {A0 A1 A2 A3 A4 A5 A6 A7 A8 A9 Z : Type} (x : Option (A0 × A1 × A2 × A3 × A4 × A5 × A6 × A7 × A8 × A9)) (k : A0 → A1 → A2 → A3 → A4 → A5 → A6 → A7 → A8 → A9 → Option Z) : Option Z := x.bind (fun p => k p.1 p.2.1 p.2.2.1 p.2.2.2.1 p.2.2.2.2.1 p.2.2.2.2.2.1 p.2.2.2.2.2.2.1 p.2.2.2.2.2.2.2.1 p.2.2.2.2.2.2.2.2.1 p.2.2.2.2.2.2.2.2.2)
theorem tg_b10_e {A0 A1 A2 A3 A4 A5 A6 A7 A8 A9 Z : Type} {x : Option (A0 × A1 × A2 × A3 × A4 × A5 × A6 × A7 × A8 × A9)} {k : A0 → A1 → A2 → A3 → A4 → A5 → A6 → A7 → A8 → A9 → Option Z} {z : Z} (h : tg_b10 x k = some z) : ∃ (a0 : A0) (a1 : A1) (a2 : A2) (a3 : A3) (a4 : A4) (a5 : A5) (a6 : A6) (a7 : A7) (a8 : A8) (a9 : A9), x = some (a0, a1, a2, a3, a4, a5, a6, a7, a8, a9) ∧ k a0 a1 a2 a3 a4 a5 a6 a7 a8 a9 = some z := by
  cases x with
  | none => cases h
  | some p => exact ⟨p.1, p.2.1, p.2.2.1, p.2.2.2.1, p.2.2.2.2.1, p.2.2.2.2.2.1, p.2.2.2.2.2.2.1, p.2.2.2.2.2.2.2.1, p.2.2.2.2.2.2.2.2.1, p.2.2.2.2.2.2.2.2.2, rfl, h⟩
def tg_b11 {A0 A1 A2 A3 A4 A5 A6 A7 A8 A9 A10 Z : Type} (x : Option (A0 × A1 × A2 × A3 × A4 × A5 × A6 × A7 × A8 × A9 × A10)) (k : A0 → A1 → A2 → A3 → A4 → A5 → A6 → A7 → A8 → A9 → A10 → Option Z) : Option Z := x.bind (fun p => k p.1 p.2.1 p.2.2.1 p.2.2.2.1 p.2.2.2.2.1 p.2.2.2.2.2.1 p.2.2.2.2.2.2.1 p.2.2.2.2.2.2.2.1 p.2.2.2.2.2.2.2.2.1 p.2.2.2.2.2.2.2.2.2.1 p.2.2.2.2.2.2.2.2.2.2)
theorem tg_b11_e {A0 A1 A2 A3 A4 A5 A6 A7 A8 A9 A10 Z : Type} {x : Option (A0 × A1 × A2 × A3 × A4 × A5 × A6 × A7 × A8 × A9 × A10)} {k : A0 → A1 → A2 → A3 → A4 → A5 → A6 → A7 → A8 → A9 → A10 → Option Z} {z : Z} (h : tg_b11 x k = some z) : ∃ (a0 : A0) (a1 : A1) (a2 : A2) (a3 : A3) (a4 : A4) (a5 : A5) (a6 : A6) (a7 : A7) (a8 : A8) (a9 : A9) (a10 : A10), x = some (a0, a1, a2, a3, a4, a5, a6, a7, a8, a9, a10) ∧ k a0 a1 a2 a3 a4 a5 a6 a7 a8 a9 a10 = some z := by
  cases x with
  | none => cases h
  | some p => exact ⟨p.1, p.2.1, p.2.2.1, p.2.2.2.1, p.2.2.2.2.1, p.2.2.2.2.2.1, p.2.2.2.2.2.2.1, p.2.2.2.2.2.2.2.1, p.2.2.2.2.2.2.2.2.1, p.2.2.2.2.2.2.2.2.2.1, p.2.2.2.2.2.2.2.2.2.2, rfl, h⟩
def tg_b12 {A0 A1 A2 A3 A4 A5 A6 A7 A8 A9 A10 A11 Z : Type} (x : Option (A0 × A1 × A2 × A3 × A4 × A5 × A6 × A7 × A8 × A9 × A10 × A11)) (k : A0 → A1 → A2 → A3 → A4 → A5 → A6 → A7 → A8 → A9 → A10 → A11 → Option Z) : Option Z := x.bind (fun p => k p.1 p.2.1 p.2.2.1 p.2.2.2.1 p.2.2.2.2.1 p.2.2.2.2.2.1 p.2.2.2.2.2.2.1 p.2.2.2.2.2.2.2.1 p.2.2.2.2.2.2.2.2.1 p.2.2.2.2.2.2.2.2.2.1 p.2.2.2.2.2.2.2.2.2.2.1 p.2.2.2.2.2.2.2.2.2.2.2)
theorem tg_b12_e {A0 A1 A2 A3 A4 A5 A6 A7 A8 A9 A10 A11 Z : Type} {x : Option (A0 × A1 × A2 × A3 × A4 × A5 × A6 × A7 × A8 × A9 × A10 × A11)} {k : A0 → A1 → A2 → A3 → A4 → A5 → A6 → A7 → A8 → A9 → A10 → A11 → Option Z} {z : Z} (h : tg_b12 x k = some z) : ∃ (a0 : A0) (a1 : A1) (a2 : A2) (a3 : A3) (a4 : A4) (a5 : A5) (a6 : A6) (a7 : A7) (a8 : A8) (a9 : A9) (a10 : A10) (a11 : A11), x = some (a0, a1, a2, a3, a4, a5, a6, a7, a8, a9, a10, a11) ∧ k a0 a1 a2 a3 a4 a5 a6 a7 a8 a9 a10 a11 = some z := by
  cases x with
  | none => cases h
  | some p => exact ⟨p.1, p.2.1, p.2.2.1, p.2.2.2.1, p.2.2.2.2.1, p.2.2.2.2.2.1, p.2.2.2.2.2.2.1, p.2.2.2.2.2.2.2.1, p.2.2.2.2.2.2.2.2.1, p.2.2.2.2.2.2.2.2.2.1, p.2.2.2.2.2.2.2.2.2.2.1, p.2.2.2.2.2.2.2.2.2.2.2, rfl, h⟩
def tg_b13 {A0 A1 A2 A3 A4 A5 A6 A7 A8 A9 A10 A11 A12 Z : Type} (x : Option (A0 × A1 × A2 × A3 × A4 × A5 × A6 × A7 × A8 × A9 × A10 × A11 × A12)) (k : A0 → A1 → A2 → A3 → A4 → A5 → A6 → A7 → A8 → A9 → A10 → A11 → A12 → Option Z) : Option Z := x.bind (fun p => k p.1 p.2.1 p.2.2.1 p.2.2.2.1 p.2.2.2.2.1 p.2.2.2.2.2.1 p.2.2.2.2.2.2.1 p.2.2.2.2.2.2.2.1 p.2.2.2.2.2.2.2.2.1 p.2.2.2.2.2.2.2.2.2.1 p.2.2.2.2.2.2.2.2.2.2.1 p.2.2.2.2.2.2.2.2.2.2.2.1 p.2.2.2.2.2.2.2.2.2.2.2.2)
theorem tg_b13_e {A0 A1 A2 A3 A4 A5 A6 A7 A8 A9 A10 A11 A12 Z : Type} {x : Option (A0 × A1 × A2 × A3 × A4 × A5 × A6 × A7 × A8 × A9 × A10 × A11 × A12)} {k : A0 → A1 → A2 → A3 → A4 → A5 → A6 → A7 → A8 → A9 → A10 → A11 → A12 → Option Z} {z : Z} (h : tg_b13 x k = some z) : ∃ (a0 : A0) (a1 : A1) (a2 : A2) (a3 : A3) (a4 : A4) (a5 : A5) (a6 : A6) (a7 : A7) (a8 : A8) (a9 : A9) (a10 : A10) (a11 : A11) (a12 : A12), x = some (a0, a1, a2, a3, a4, a5, a6, a7, a8, a9, a10, a11, a12) ∧ k a0 a1 a2 a3 a4 a5 a6 a7 a8 a9 a10 a11 a12 = some z := by
  cases x with
  | none => cases h
  | some p => exact ⟨p.1, p.2.1, p.2.2.1, p.2.2.2.1, p.2.2.2.2.1, p.2.2.2.2.2.1, p.2.2.2.2.2.2.1, p.2.2.2.2.2.2.2.1, p.2.2.2.2.2.2.2.2.1, p.2.2.2.2.2.2.2.2.2.1, p.2.2.2.2.2.2.2.2.2.2.1, p.2.2.2.2.2.2.2.2.2.2.2.1, p.2.2.2.2.2.2.2.2.2.2.2.2, rfl, h⟩
def tg_b14 {A0 A1 A2 A3 A4 A5 A6 A7 A8 A9 A10 A11 A12 A13 Z : Type} (x : Option (A0 × A1 × A2 × A3 × A4 × A5 × A6 × A7 × A8 × A9 × A10 × A11 × A12 × A13)) (k : A0 → A1 → A2 → A3 → A4 → A5 → A6 → A7 → A8 → A9 → A10 → A11 → A12 → A13 → Option Z) : Option Z := x.bind (fun p => k p.1 p.2.1 p.2.2.1 p.2.2.2.1 p.2.2.2.2.1 p.2.2.2.2.2.1 p.2.2.2.2.2.2.1 p.2.2.2.2.2.2.2.1 p.2.2.2.2.2.2.2.2.1 p.2.2.2.2.2.2.2.2.2.1 p.2.2.2.2.2.2.2.2.2.2.1 p.2.2.2.2.2.2.2.2.2.2.2.1 p.2.2.2.2.2.2.2.2.2.2.2.2.1 p.2.2.2.2.2.2.2.2.2.2.2.2.2)
theorem tg_b14_e {A0 A1 A2 A3 A4 A5 A6 A7 A8 A9 A10 A11 A12 A13 Z : Type} {x : Option (A0 × A1 × A2 × A3 × A4 × A5 × A6 × A7 × A8 × A9 × A10 × A11 × A12 × A13)} {k : A0 → A1 → A2 → A3 → A4 → A5 → A6 → A7 → A8 → A9 → A10 → A11 → A12 → A13 → Option Z} {z : Z} (h : tg_b14 x k = some z) : ∃ (a0 : A0) (a1 : A1) (a2 : A2) (a3 : A3) (a4 : A4) (a5 : A5) (a6 : A6) (a7 : A7) (a8 : A8) (a9 : A9) (a10 : A10) (a11 : A11) (a12 : A12) (a13 : A13), x = some (a0, a1, a2, a3, a4, a5, a6, a7, a8, a9, a10, a11, a12, a13) ∧ k a0 a1 a2 a3 a4 a5 a6 a7 a8 a9 a10 a11 a12 a13 = some z := by
  cases x with
  | none => cases h
  | some p => exact ⟨p.1, p.2.1, p.2.2.1, p.2.2.2.1, p.2.2.2.2.1, p.2.2.2.2.2.1, p.2.2.2.2.2.2.1, p.2.2.2.2.2.2.2.1, p.2.2.2.2.2.2.2.2.1, p.2.2.2.2.2.2.2.2.2.1, p.2.2.2.2.2.2.2.2.2.2.1, p.2.2.2.2.2.2.2.2.2.2.2.1, p.2.2.2.2.2.2.2.2.2.2.2.2.1, p.2.2.2.2.2.2.2.2.2.2.2.2.2, rfl, h⟩
def tg_b15 {A0 A1 A2 A3 A4 A5 A6 A7 A8 A9 A10 A11 A12 A13 A14 Z : Type} (x : Option (A0 × A1 × A2 × A3 × A4 × A5 × A6 × A7 × A8 × A9 × A10 × A11 × A12 × A13 × A14)) (k : A0 → A1 → A2 → A3 → A4 → A5 → A6 → A7 → A8 → A9 → A10 → A11 → A12 → A13 → A14 → Option Z) : Option Z := x.bind (fun p => k p.1 p.2.1 p.2.2.1 p.2.2.2.1 p.2.2.2.2.1 p.2.2.2.2.2.1 p.2.2.2.2.2.2.1 p.2.2.2.2.2.2.2.1 p.2.2.2.2.2.2.2.2.1 p.2.2.2.2.2.2.2.2.2.1 p.2.2.2.2.2.2.2.2.2.2.1 p.2.2.2.2.2.2.2.2.2.2.2.1 p.2.2.2.2.2.2.2.2.2.2.2.2.1 p.2.2.2.2.2.2.2.2.2.2.2.2.2.1 p.2.2.2.2.2.2.2.2.2.2.2.2.2.2)
theorem tg_b15_e {A0 A1 A2 A3 A4 A5 A6 A7 A8 A9 A10 A11 A12 A13 A14 Z : Type} {x : Option (A0 × A1 × A2 × A3 × A4 × A5 × A6 × A7 × A8 × A9 × A10 × A11 × A12 × A13 × A14)} {k : A0 → A1 → A2 → A3 → A4 → A5 → A6 → A7 → A8 → A9 → A10 → A11 → A12 → A13 → A14 → Option Z} {z : Z} (h : tg_b15 x k = some z) : ∃ (a0 : A0) (a1 : A1) (a2 : A2) (a3 : A3) (a4 : A4) (a5 : A5) (a6 : A6) (a7 : A7) (a8 : A8) (a9 : A9) (a10 : A10) (a11 : A11) (a12 : A12) (a13 : A13) (a14 : A14), x = some (a0, a1, a2, a3, a4, a5, a6, a7, a8, a9, a10, a11, a12, a13, a14) ∧ k a0 a1 a2 a3 a4 a5 a6 a7 a8 a9 a10 a11 a12 a13 a14 = some z := by
  cases x with
  | none => cases h
  | some p => exact ⟨p.1, p.2.1, p.2.2.1, p.2.2.2.1, p.2.2.2.2.1, p.2.2.2.2.2.1, p.2.2.2.2.2.2.1, p.2.2.2.2.2.2.2.1, p.2.2.2.2.2.2.2.2.1, p.2.2.2.2.2.2.2.2.2.1, p.2.2.2.2.2.2.2.2.2.2.1, p.2.2.2.2.2.2.2.2.2.2.2.1, p.2.2.2.2.2.2.2.2.2.2.2.2.1, p.2.2.2.2.2.2.2.2.2.2.2.2.2.1, p.2.2.2.2.2.2.2.2.2.2.2.2.2.2, rfl, h⟩
def tg_b16 {A0 A1 A2 A3 A4 A5 A6 A7 A8 A9 A10 A11 A12 A13 A14 A15 Z : Type} (x : Option (A0 × A1 × A2 × A3 × A4 × A5 × A6 × A7 × A8 × A9 × A10 × A11 × A12 × A13 × A14 × A15)) (k : A0 → A1 → A2 → A3 → A4 → A5 → A6 → A7 → A8 → A9 → A10 → A11 → A12 → A13 → A14 → A15 → Option Z) : Option Z := x.bind (fun p => k p.1 p.2.1 p.2.2.1 p.2.2.2.1 p.2.2.2.2.1 p.2.2.2.2.2.1 p.2.2.2.2.2.2.1 p.2.2.2.2.2.2.2.1 p.2.2.2.2.2.2.2.2.1 p.2.2.2.2.2.2.2.2.2.1 p.2.2.2.2.2.2.2.2.2.2.1 p.2.2.2.2.2.2.2.2.2.2.2.1 p.2.2.2.2.2.2.2.2.2.2.2.2.1 p.2.2.2.2.2.2.2.2.2.2.2.2.2.1 p.2.2.2.2.2.2.2.2.2.2.2.2.2.2.1 p.2.2.2.2.2.2.2.2.2.2.2.2.2.2.2)
theorem tg_b16_e {A0 A1 A2 A3 A4 A5 A6 A7 A8 A9 A10 A11 A12 A13 A14 A15 Z : Type} {x : Option (A0 × A1 × A2 × A3 × A4 × A5 × A6 × A7 × A8 × A9 × A10 × A11 × A12 × A13 × A14 × A15)} {k : A0 → A1 → A2 → A3 → A4 → A5 → A6 → A7 → A8 → A9 → A10 → A11 → A12 → A13 → A14 → A15 → Option Z} {z : Z} (h : tg_b16 x k = some z) : ∃ (a0 : A0) (a1 : A1) (a2 : A2) (a3 : A3) (a4 : A4) (a5 : A5) (a6 : A6) (a7 : A7) (a8 : A8) (a9 : A9) (a10 : A10) (a11 : A11) (a12 : A12) (a13 : A13) (a14 : A14) (a15 : A15), x = some (a0, a1, a2, a3, a4, a5, a6, a7, a8, a9, a10, a11, a12, a13, a14, a15) ∧ k a0 a1 a2 a3 a4 a5 a6 a7 a8 a9 a10 a11 a12 a13 a14 a15 = some z := by
  cases x with
  | none => cases h
  | some p => exact ⟨p.1, p.2.1, p.2.2.1, p.2.2.2.1, p.2.2.2.2.1, p.2.2.2.2.2.1, p.2.2.2.2.2.2.1, p.2.2.2.2.2.2.2.1, p.2.2.2.2.2.2.2.2.1, p.2.2.2.2.2.2.2.2.2.1, p.2.2.2.2.2.2.2.2.2.2.1, p.2.2.2.2.2.2.2.2.2.2.2.1, p.2.2.2.2.2.2.2.2.2.2.2.2.1, p.2.2.2.2.2.2.2.2.2.2.2.2.2.1, p.2.2.2.2.2.2.2.2.2.2.2.2.2.2.1, p.2.2.2.2.2.2.2.2.2.2.2.2.2.2.2, rfl, h⟩
def tg_b17 {A0 A1 A2 A3 A4 A5 A6 A7 A8 A9 A10 A11 A12 A13 A14 A15 A16 Z : Type} (x : Option (A0 × A1 × A2 × A3 × A4 × A5 × A6 × A7 × A8 × A9 × A10 × A11 × A12 × A13 × A14 × A15 × A16)) (k : A0 → A1 → A2 → A3 → A4 → A5 → A6 → A7 → A8 → A9 → A10 → A11 → A12 → A13 → A14 → A15 → A16 → Option Z) : Option Z := x.bind (fun p => k p.1 p.2.1 p.2.2.1 p.2.2.2.1 p.2.2.2.2.1 p.2.2.2.2.2.1 p.2.2.2.2.2.2.1 p.2.2.2.2.2.2.2.1 p.2.2.2.2.2.2.2.2.1 p.2.2.2.2.2.2.2.2.2.1 p.2.2.2.2.2.2.2.2.2.2.1 p.2.2.2.2.2.2.2.2.2.2.2.1 p.2.2.2.2.2.2.2.2.2.2.2.2.1 p.2.2.2.2.2.2.2.2.2.2.2.2.2.1 p.2.2.2.2.2.2.2.2.2.2.2.2.2.2.1 p.2.2.2.2.2.2.2.2.2.2.2.2.2.2.2.1 p.2.2.2.2.2.2.2.2.2.2.2.2.2.2.2.2)
theorem tg_b17_e {A0 A1 A2 A3 A4 A5 A6 A7 A8 A9 A10 A11 A12 A13 A14 A15 A16 Z : Type} {x : Option (A0 × A1 × A2 × A3 × A4 × A5 × A6 × A7 × A8 × A9 × A10 × A11 × A12 × A13 × A14 × A15 × A16)} {k : A0 → A1 → A2 → A3 → A4 → A5 → A6 → A7 → A8 → A9 → A10 → A11 → A12 → A13 → A14 → A15 → A16 → Option Z} {z : Z} (h : tg_b17 x k = some z) : ∃ (a0 : A0) (a1 : A1) (a2 : A2) (a3 : A3) (a4 : A4) (a5 : A5) (a6 : A6) (a7 : A7) (a8 : A8) (a9 : A9) (a10 : A10) (a11 : A11) (a12 : A12) (a13 : A13) (a14 : A14) (a15 : A15) (a16 : A16), x = some (a0, a1, a2, a3, a4, a5, a6, a7, a8, a9, a10, a11, a12, a13, a14, a15, a16) ∧ k a0 a1 a2 a3 a4 a5 a6 a7 a8 a9 a10 a11 a12 a13 a14 a15 a16 = some z := by
  cases x with
  | none => cases h
  | some p => exact ⟨p.1, p.2.1, p.2.2.1, p.2.2.2.1, p.2.2.2.2.1, p.2.2.2.2.2.1, p.2.2.2.2.2.2.1, p.2.2.2.2.2.2.2.1, p.2.2.2.2.2.2.2.2.1, p.2.2.2.2.2.2.2.2.2.1, p.2.2.2.2.2.2.2.2.2.2.1, p.2.2.2.2.2.2.2.2.2.2.2.1, p.2.2.2.2.2.2.2.2.2.2.2.2.1, p.2.2.2.2.2.2.2.2.2.2.2.2.2.1, p.2.2.2.2.2.2.2.2.2.2.2.2.2.2.1, p.2.2.2.2.2.2.2.2.2.2.2.2.2.2.2.1, p.2.2.2.2.2.2.2.2.2.2.2.2.2.2.2.2, rfl, h⟩
def tg_b18 {A0 A1 A2 A3 A4 A5 A6 A7 A8 A9 A10 A11 A12 A13 A14 A15 A16 A17 Z : Type} (x : Option (A0 × A1 × A2 × A3 × A4 × A5 × A6 × A7 × A8 × A9 × A10 × A11 × A12 × A13 × A14 × A15 × A16 × A17)) (k : A0 → A1 → A2 → A3 → A4 → A5 → A6 → A7 → A8 → A9 → A10 → A11 → A12 → A13 → A14 → A15 → A16 → A17 → Option Z) : Option Z := x.bind (fun p => k p.1 p.2.1 p.2.2.1 p.2.2.2.1 p.2.2.2.2.1 p.2.2.2.2.2.1 p.2.2.2.2.2.2.1 p.2.2.2.2.2.2.2.1 p.2.2.2.2.2.2.2.2.1 p.2.2.2.2.2.2.2.2.2.1 p.2.2.2.2.2.2.2.2.2.2.1 p.2.2.2.2.2.2.2.2.2.2.2.1 p.2.2.2.2.2.2.2.2.2.2.2.2.1 p.2.2.2.2.2.2.2.2.2.2.2.2.2.1 p.2.2.2.2.2.2.2.2.2.2.2.2.2.2.1 p.2.2.2.2.2.2.2.2.2.2.2.2.2.2.2.1 p.2.2.2.2.2.2.2.2.2.2.2.2.2.2.2.2.1 p.2.2.2.2.2.2.2.2.2.2.2.2.2.2.2.2.2)
theorem tg_b18_e {A0 A1 A2 A3 A4 A5 A6 A7 A8 A9 A10 A11 A12 A13 A14 A15 A16 A17 Z : Type} {x : Option (A0 × A1 × A2 × A3 × A4 × A5 × A6 × A7 × A8 × A9 × A10 × A11 × A12 × A13 × A14 × A15 × A16 × A17)} {k : A0 → A1 → A2 → A3 → A4 → A5 → A6 → A7 → A8 → A9 → A10 → A11 → A12 → A13 → A14 → A15 → A16 → A17 → Option Z} {z : Z} (h : tg_b18 x k = some z) : ∃ (a0 : A0) (a1 : A1) (a2 : A2) (a3 : A3) (a4 : A4) (a5 : A5) (a6 : A6) (a7 : A7) (a8 : A8) (a9 : A9) (a10 : A10) (a11 : A11) (a12 : A12) (a13 : A13) (a14 : A14) (a15 : A15) (a16 : A16) (a17 : A17), x = some (a0, a1, a2, a3, a4, a5, a6, a7, a8, a9, a10, a11, a12, a13, a14, a15, a16, a17) ∧ k a0 a1 a2 a3 a4 a5 a6 a7 a8 a9 a10 a11 a12 a13 a14 a15 a16 a17 = some z := by
  cases x with
  | none => cases h
  | some p => exact ⟨p.1, p.2.1, p.2.2.1, p.2.2.2.1, p.2.2.2.2.1, p.2.2.2.2.2.1, p.2.2.2.2.2.2.1, p.2.2.2.2.2.2.2.1, p.2.2.2.2.2.2.2.2.1, p.2.2.2.2.2.2.2.2.2.1, p.2.2.2.2.2.2.2.2.2.2.1, p.2.2.2.2.2.2.2.2.2.2.2.1, p.2.2.2.2.2.2.2.2.2.2.2.2.1, p.2.2.2.2.2.2.2.2.2.2.2.2.2.1, p.2.2.2.2.2.2.2.2.2.2.2.2.2.2.1, p.2.2.2.2.2.2.2.2.2.2.2.2.2.2.2.1, p.2.2.2.2.2.2.2.2.2.2.2.2.2.2.2.2.1, p.2.2.2.2.2.2.2.2.2.2.2.2.2.2.2.2.2, rfl, h⟩
def tg_b19 {A0 A1 A2 A3 A4 A5 A6 A7 A8 A9 A10 A11 A12 A13 A14 A15 A16 A17 A18 Z : Type} (x : Option (A0 × A1 × A2 × A3 × A4 × A5 × A6 × A7 × A8 × A9 × A10 × A11 × A12 × A13 × A14 × A15 × A16 × A17 × A18)) (k : A0 → A1 → A2 → A3 → A4 → A5 → A6 → A7 → A8 → A9 → A10 → A11 → A12 → A13 → A14 → A15 → A16 → A17 → A18 → Option Z) : Option Z := x.bind (fun p => k p.1 p.2.1 p.2.2.1 p.2.2.2.1 p.2.2.2.2.1 p.2.2.2.2.2.1 p.2.2.2.2.2.2.1 p.2.2.2.2.2.2.2.1 p.2.2.2.2.2.2.2.2.1 p.2.2.2.2.2.2.2.2.2.1 p.2.2.2.2.2.2.2.2.2.2.1 p.2.2.2.2.2.2.2.2.2.2.2.1 p.2.2.2.2.2.2.2.2.2.2.2.2.1 p.2.2.2.2.2.2.2.2.2.2.2.2.2.1 p.2.2.2.2.2.2.2.2.2.2.2.2.2.2.1 p.2.2.2.2.2.2.2.2.2.2.2.2.2.2.2.1 p.2.2.2.2.2.2.2.2.2.2.2.2.2.2.2.2.1 p.2.2.2.2.2.2.2.2.2.2.2.2.2.2.2.2.2.1 p.2.2.2.2.2.2.2.2.2.2.2.2.2.2.2.2.2.2)
theorem tg_b19_e {A0 A1 A2 A3 A4 A5 A6 A7 A8 A9 A10 A11 A12 A13 A14 A15 A16 A17 A18 Z : Type} {x : Option (A0 × A1 × A2 × A3 × A4 × A5 × A6 × A7 × A8 × A9 × A10 × A11 × A12 × A13 × A14 × A15 × A16 × A17 × A18)} {k : A0 → A1 → A2 → A3 → A4 → A5 → A6 → A7 → A8 → A9 → A10 → A11 → A12 → A13 → A14 → A15 → A16 → A17 → A18 → Option Z} {z : Z} (h : tg_b19 x k = some z) : ∃ (a0 : A0) (a1 : A1) (a2 : A2) (a3 : A3) (a4 : A4) (a5 : A5) (a6 : A6) (a7 : A7) (a8 : A8) (a9 : A9) (a10 : A10) (a11 : A11) (a12 : A12) (a13 : A13) (a14 : A14) (a15 : A15) (a16 : A16) (a17 : A17) (a18 : A18), x = some (a0, a1, a2, a3, a4, a5, a6, a7, a8, a9, a10, a11, a12, a13, a14, a15, a16, a17, a18) ∧ k a0 a1 a2 a3 a4 a5 a6 a7 a8 a9 a10 a11 a12 a13 a14 a15 a16 a17 a18 = some z := by
  cases x with
  | none => cases h
  | some p => exact ⟨p.1, p.2.1, p.2.2.1, p.2.2.2.1, p.2.2.2.2.1, p.2.2.2.2.2.1, p.2.2.2.2.2.2.1, p.2.2.2.2.2.2.2.1, p.2.2.2.2.2.2.2.2.1, p.2.2.2.2.2.2.2.2.2.1, p.2.2.2.2.2.2.2.2.2.2.1, p.2.2.2.2.2.2.2.2.2.2.2.1, p.2.2.2.2.2.2.2.2.2.2.2.2.1, p.2.2.2.2.2.2.2.2.2.2.2.2.2.1, p.2.2.2.2.2.2.2.2.2.2.2.2.2.2.1, p.2.2.2.2.2.2.2.2.2.2.2.2.2.2.2.1, p.2.2.2.2.2.2.2.2.2.2.2.2.2.2.2.2.1, p.2.2.2.2.2.2.2.2.2.2.2.2.2.2.2.2.2.1, p.2.2.2.2.2.2.2.2.2.2.2.2.2.2.2.2.2.2, rfl, h⟩
def tw_T (D : tg_D) (t0 t1 t2 : Nat) (t_pips : Nat → Int32) (t_many : Nat → Int32) (t_berths : Int32) (t_goal : Int32) : va_W := [(t0, .inr (3, [.ref t1, .ref t2, .int t_berths, .int t_goal])), (t1, .inl (D.2 0, 18, .inl t_pips)), (t2, .inl (D.2 0, 3, .inl t_many))]
def tw_TT (D : tg_D) (t0 t1 t2 e0 e1 e2 : Nat) (t_pips : Nat → Int32) (t_many : Nat → Int32) (t_berths : Int32) (t_goal : Int32) (d_pips : Nat → Int32) (d_many : Nat → Int32) (d_berths : Int32) (d_goal : Int32) : va_W := [(t0, .inr (3, [.ref t1, .ref t2, .int t_berths, .int t_goal])), (t1, .inl (D.2 0, 18, .inl t_pips)), (t2, .inl (D.2 0, 3, .inl t_many)), (e0, .inr (3, [.ref e1, .ref e2, .int d_berths, .int d_goal])), (e1, .inl (D.2 0, 18, .inl d_pips)), (e2, .inl (D.2 0, 3, .inl d_many))]
def tw_A (D : tg_D) (b0 b1 b2 b3 b4 : Nat) (a_shown : Nat → Int32) (a_calm : Nat → Int32) (a_windy : Nat → Int32) (a_turns : Nat → Int32) (a_many : Int32) (a_ever : Int32) : va_W := [(b0, .inr (0, [.ref b1, .ref b2, .ref b3, .ref b4, .int a_many, .int a_ever])), (b1, .inl (D.2 0, 216, .inl a_shown)), (b2, .inl (D.2 0, 216, .inl a_calm)), (b3, .inl (D.2 0, 216, .inl a_windy)), (b4, .inl (D.2 1, 216, .inl a_turns))]
def tw_AT (D : tg_D) (b0 b1 b2 b3 b4 t0 t1 t2 : Nat) (a_shown : Nat → Int32) (a_calm : Nat → Int32) (a_windy : Nat → Int32) (a_turns : Nat → Int32) (a_many : Int32) (a_ever : Int32) (t_pips : Nat → Int32) (t_many : Nat → Int32) (t_berths : Int32) (t_goal : Int32) : va_W := [(b0, .inr (0, [.ref b1, .ref b2, .ref b3, .ref b4, .int a_many, .int a_ever])), (b1, .inl (D.2 0, 216, .inl a_shown)), (b2, .inl (D.2 0, 216, .inl a_calm)), (b3, .inl (D.2 0, 216, .inl a_windy)), (b4, .inl (D.2 1, 216, .inl a_turns)), (t0, .inr (3, [.ref t1, .ref t2, .int t_berths, .int t_goal])), (t1, .inl (D.2 0, 18, .inl t_pips)), (t2, .inl (D.2 0, 3, .inl t_many))]
def tw_C (D : tg_D) (c0 c1 c2 t0 t1 t2 : Nat) (c_at : Nat → Int32) (c_past : Nat → Int32) (c_known : Int32) (t_pips : Nat → Int32) (t_many : Nat → Int32) (t_berths : Int32) (t_goal : Int32) : va_W := [(c0, .inr (1, [.ref t0, .ref c1, .ref c2, .int c_known])), (c1, .inl (D.2 0, 9, .inl c_at)), (c2, .inl (D.2 0, 108, .inl c_past)), (t0, .inr (3, [.ref t1, .ref t2, .int t_berths, .int t_goal])), (t1, .inl (D.2 0, 18, .inl t_pips)), (t2, .inl (D.2 0, 3, .inl t_many))]
def tw_CC (D : tg_D) (c0 c1 c2 g0 g1 g2 t0 : Nat) (c_at : Nat → Int32) (c_past : Nat → Int32) (c_known : Int32) (g_at : Nat → Int32) (g_past : Nat → Int32) (g_known : Int32) : va_W := [(c0, .inr (1, [.ref t0, .ref c1, .ref c2, .int c_known])), (c1, .inl (D.2 0, 9, .inl c_at)), (c2, .inl (D.2 0, 108, .inl c_past)), (g0, .inr (1, [.ref t0, .ref g1, .ref g2, .int g_known])), (g1, .inl (D.2 0, 9, .inl g_at)), (g2, .inl (D.2 0, 108, .inl g_past))]
def tw_R (D : tg_D) (r0 e0 e1 e2 x0 rt : Nat) (r_fault : Int32) (r_length : Int32) (r_kind : Int32) (r_start : Int32) (r_next : Int32) (r_number : Int32) (r_dice : Int32) (r_bt : Int32) (r_gt : Int32) (d_pips : Nat → Int32) (d_many : Nat → Int32) (d_berths : Int32) (d_goal : Int32) (x_text : Nat → Int32) : va_W := [(r0, .inr (2, [.ref e0, .int r_fault, .ref rt, .int r_length, .int r_kind, .int r_start, .int r_next, .int r_number, .int r_dice, .int r_bt, .int r_gt])), (e0, .inr (3, [.ref e1, .ref e2, .int d_berths, .int d_goal])), (e1, .inl (D.2 0, 18, .inl d_pips)), (e2, .inl (D.2 0, 3, .inl d_many)), (x0, .inl (D.2 2, 120, .inl x_text))]
def tw_X (D : tg_D) (h0 x0 t0 t1 t2 r0 e0 e1 e2 rt z0 b0 b1 b2 b3 b4 c0 c1 c2 m0 i0 i1 i2 j0 j1 j2 k0 k1 k2 : Nat) (x_text : Nat → Int32) (x_typed : Int32) (t_pips : Nat → Int32) (t_many : Nat → Int32) (t_berths : Int32) (t_goal : Int32) (r_fault : Int32) (r_length : Int32) (r_kind : Int32) (r_start : Int32) (r_next : Int32) (r_number : Int32) (r_dice : Int32) (r_bt : Int32) (r_gt : Int32) (d_pips : Nat → Int32) (d_many : Nat → Int32) (d_berths : Int32) (d_goal : Int32) (a_shown : Nat → Int32) (a_calm : Nat → Int32) (a_windy : Nat → Int32) (a_turns : Nat → Int32) (a_many : Int32) (a_ever : Int32) (c_at : Nat → Int32) (c_past : Nat → Int32) (c_known : Int32) (i_at : Nat → Int32) (i_past : Nat → Int32) (i_known : Int32) (j_at : Nat → Int32) (j_past : Nat → Int32) (j_known : Int32) (x_kept : Nat → Int32) (x_cb : Nat → Int32) (x_ct : Nat → Int32) (x_chalked : Int32) (x_traced : Int64) : va_W := [(h0, .inr (4, [.ref x0, .int x_typed, .ref t0, .ref r0, .ref b0, .ref c0, .ref m0, .ref k0, .ref k1, .ref k2, .int x_chalked, .long x_traced])), (x0, .inl (D.2 2, 120, .inl x_text)), (t0, .inr (3, [.ref t1, .ref t2, .int t_berths, .int t_goal])), (t1, .inl (D.2 0, 18, .inl t_pips)), (t2, .inl (D.2 0, 3, .inl t_many)), (r0, .inr (2, [.ref e0, .int r_fault, .ref rt, .int r_length, .int r_kind, .int r_start, .int r_next, .int r_number, .int r_dice, .int r_bt, .int r_gt])), (e0, .inr (3, [.ref e1, .ref e2, .int d_berths, .int d_goal])), (e1, .inl (D.2 0, 18, .inl d_pips)), (e2, .inl (D.2 0, 3, .inl d_many)), (z0, .inl (D.2 2, 0, .inl (fun _ => 0))), (b0, .inr (0, [.ref b1, .ref b2, .ref b3, .ref b4, .int a_many, .int a_ever])), (b1, .inl (D.2 0, 216, .inl a_shown)), (b2, .inl (D.2 0, 216, .inl a_calm)), (b3, .inl (D.2 0, 216, .inl a_windy)), (b4, .inl (D.2 1, 216, .inl a_turns)), (c0, .inr (1, [.ref t0, .ref c1, .ref c2, .int c_known])), (c1, .inl (D.2 0, 9, .inl c_at)), (c2, .inl (D.2 0, 108, .inl c_past)), (m0, .inl (D.2 3, 2, .inr (.inr (.inr (.inr (tg_im i0 j0)))))), (i0, .inr (1, [.ref t0, .ref i1, .ref i2, .int i_known])), (i1, .inl (D.2 0, 9, .inl i_at)), (i2, .inl (D.2 0, 108, .inl i_past)), (j0, .inr (1, [.ref t0, .ref j1, .ref j2, .int j_known])), (j1, .inl (D.2 0, 9, .inl j_at)), (j2, .inl (D.2 0, 108, .inl j_past)), (k0, .inl (D.2 1, 2, .inl x_kept)), (k1, .inl (D.2 0, 6, .inl x_cb)), (k2, .inl (D.2 0, 6, .inl x_ct))]
def tw_M (D : tg_D) (o0 o1 o2 o3 o4 o5 o6 o7 o8 : Nat) (m_text : Nat → Int32) (m_size : Int32) (m_at : Int32) (m_begin : Int32) (m_token : Int32) (m_told : Int32) (m_read : Nat → Int32) (m_harbour : Nat → Int32) (m_now : Nat → Int32) (m_undone : Nat → Int32) (m_undos : Int32) (m_one : Int32) (m_two : Int32) (m_three : Int32) (m_chalks : Int32) (m_cb : Nat → Int32) (m_co : Nat → Int32) (m_trace : Int64) (m_kept : Nat → Int32) : va_W := [(o0, .inr (5, [.ref o1, .int m_size, .int m_at, .int m_begin, .int m_token, .int m_told, .ref o2, .ref o3, .ref o4, .ref o5, .int m_undos, .int m_one, .int m_two, .int m_three, .int m_chalks, .ref o6, .ref o7, .long m_trace, .ref o8])), (o1, .inl (D.2 0, 120, .inl m_text)), (o2, .inl (D.2 0, 25, .inl m_read)), (o3, .inl (D.2 0, 25, .inl m_harbour)), (o4, .inl (D.2 0, 27, .inl m_now)), (o5, .inl (D.2 0, 324, .inl m_undone)), (o6, .inl (D.2 0, 6, .inl m_cb)), (o7, .inl (D.2 0, 6, .inl m_co)), (o8, .inl (D.2 0, 706, .inl m_kept))]
theorem cinX0 : ∀ w ∈ u_ws RX0 TX0 6, w ∈ tg_tbl := by
  intro w hw
  obtain ⟨k, hk, rfl⟩ := List.mem_map.mp hw
  have hk := List.mem_range.mp hk
  match k, hk with
  | 0, _ => exact tg_in 171 (by decide +kernel) (by decide +kernel)
  | 1, _ => exact tg_in 173 (by decide +kernel) (by decide +kernel)
  | 2, _ => exact tg_in 175 (by decide +kernel) (by decide +kernel)
  | 3, _ => exact tg_in 177 (by decide +kernel) (by decide +kernel)
  | 4, _ => exact tg_in 179 (by decide +kernel) (by decide +kernel)
  | 5, _ => exact tg_in 181 (by decide +kernel) (by decide +kernel)
theorem cfX0 : tg_F 0 RX0 TX0 6 tyX0 := ⟨rfl, cinX0, tyX0_ok, nmX0⟩
theorem cinX1 : ∀ w ∈ u_ws RX1 TX1 4, w ∈ tg_tbl := by
  intro w hw
  obtain ⟨k, hk, rfl⟩ := List.mem_map.mp hw
  have hk := List.mem_range.mp hk
  match k, hk with
  | 0, _ => exact tg_in 200 (by decide +kernel) (by decide +kernel)
  | 1, _ => exact tg_in 202 (by decide +kernel) (by decide +kernel)
  | 2, _ => exact tg_in 204 (by decide +kernel) (by decide +kernel)
  | 3, _ => exact tg_in 206 (by decide +kernel) (by decide +kernel)
theorem cfX1 : tg_F 1 RX1 TX1 4 tyX1 := ⟨rfl, cinX1, tyX1_ok, nmX1⟩
theorem cinX2 : ∀ w ∈ u_ws RX2 TX2 11, w ∈ tg_tbl := by
  intro w hw
  obtain ⟨k, hk, rfl⟩ := List.mem_map.mp hw
  have hk := List.mem_range.mp hk
  match k, hk with
  | 0, _ => exact tg_in 134 (by decide +kernel) (by decide +kernel)
  | 1, _ => exact tg_in 136 (by decide +kernel) (by decide +kernel)
  | 2, _ => exact tg_in 138 (by decide +kernel) (by decide +kernel)
  | 3, _ => exact tg_in 140 (by decide +kernel) (by decide +kernel)
  | 4, _ => exact tg_in 142 (by decide +kernel) (by decide +kernel)
  | 5, _ => exact tg_in 144 (by decide +kernel) (by decide +kernel)
  | 6, _ => exact tg_in 146 (by decide +kernel) (by decide +kernel)
  | 7, _ => exact tg_in 148 (by decide +kernel) (by decide +kernel)
  | 8, _ => exact tg_in 150 (by decide +kernel) (by decide +kernel)
  | 9, _ => exact tg_in 152 (by decide +kernel) (by decide +kernel)
  | 10, _ => exact tg_in 154 (by decide +kernel) (by decide +kernel)
theorem cfX2 : tg_F 2 RX2 TX2 11 tyX2 := ⟨rfl, cinX2, tyX2_ok, nmX2⟩
theorem cinX3 : ∀ w ∈ u_ws RX3 TX3 4, w ∈ tg_tbl := by
  intro w hw
  obtain ⟨k, hk, rfl⟩ := List.mem_map.mp hw
  have hk := List.mem_range.mp hk
  match k, hk with
  | 0, _ => exact tg_in 102 (by decide +kernel) (by decide +kernel)
  | 1, _ => exact tg_in 104 (by decide +kernel) (by decide +kernel)
  | 2, _ => exact tg_in 106 (by decide +kernel) (by decide +kernel)
  | 3, _ => exact tg_in 108 (by decide +kernel) (by decide +kernel)
theorem cfX3 : tg_F 3 RX3 TX3 4 tyX3 := ⟨rfl, cinX3, tyX3_ok, nmX3⟩
theorem cinX4 : ∀ w ∈ u_ws RX4 TX4 12, w ∈ tg_tbl := by
  intro w hw
  obtain ⟨k, hk, rfl⟩ := List.mem_map.mp hw
  have hk := List.mem_range.mp hk
  match k, hk with
  | 0, _ => exact tg_in 251 (by decide +kernel) (by decide +kernel)
  | 1, _ => exact tg_in 253 (by decide +kernel) (by decide +kernel)
  | 2, _ => exact tg_in 255 (by decide +kernel) (by decide +kernel)
  | 3, _ => exact tg_in 257 (by decide +kernel) (by decide +kernel)
  | 4, _ => exact tg_in 259 (by decide +kernel) (by decide +kernel)
  | 5, _ => exact tg_in 261 (by decide +kernel) (by decide +kernel)
  | 6, _ => exact tg_in 263 (by decide +kernel) (by decide +kernel)
  | 7, _ => exact tg_in 265 (by decide +kernel) (by decide +kernel)
  | 8, _ => exact tg_in 267 (by decide +kernel) (by decide +kernel)
  | 9, _ => exact tg_in 269 (by decide +kernel) (by decide +kernel)
  | 10, _ => exact tg_in 271 (by decide +kernel) (by decide +kernel)
  | 11, _ => exact tg_in 273 (by decide +kernel) (by decide +kernel)
theorem cfX4 : tg_F 4 RX4 TX4 12 tyX4 := ⟨rfl, cinX4, tyX4_ok, nmX4⟩
theorem cinX5 : ∀ w ∈ u_ws RX5 TX5 19, w ∈ tg_tbl := by
  intro w hw
  obtain ⟨k, hk, rfl⟩ := List.mem_map.mp hw
  have hk := List.mem_range.mp hk
  match k, hk with
  | 0, _ => exact tg_in 724 (by decide +kernel) (by decide +kernel)
  | 1, _ => exact tg_in 726 (by decide +kernel) (by decide +kernel)
  | 2, _ => exact tg_in 728 (by decide +kernel) (by decide +kernel)
  | 3, _ => exact tg_in 730 (by decide +kernel) (by decide +kernel)
  | 4, _ => exact tg_in 732 (by decide +kernel) (by decide +kernel)
  | 5, _ => exact tg_in 734 (by decide +kernel) (by decide +kernel)
  | 6, _ => exact tg_in 736 (by decide +kernel) (by decide +kernel)
  | 7, _ => exact tg_in 738 (by decide +kernel) (by decide +kernel)
  | 8, _ => exact tg_in 740 (by decide +kernel) (by decide +kernel)
  | 9, _ => exact tg_in 742 (by decide +kernel) (by decide +kernel)
  | 10, _ => exact tg_in 744 (by decide +kernel) (by decide +kernel)
  | 11, _ => exact tg_in 746 (by decide +kernel) (by decide +kernel)
  | 12, _ => exact tg_in 748 (by decide +kernel) (by decide +kernel)
  | 13, _ => exact tg_in 750 (by decide +kernel) (by decide +kernel)
  | 14, _ => exact tg_in 752 (by decide +kernel) (by decide +kernel)
  | 15, _ => exact tg_in 754 (by decide +kernel) (by decide +kernel)
  | 16, _ => exact tg_in 756 (by decide +kernel) (by decide +kernel)
  | 17, _ => exact tg_in 758 (by decide +kernel) (by decide +kernel)
  | 18, _ => exact tg_in 760 (by decide +kernel) (by decide +kernel)
  | k + 19, hk => exact absurd hk (by omega)
theorem cfX5 : tg_F 5 RX5 TX5 19 tyX5 := ⟨rfl, cinX5, tyX5_ok, nmX5⟩
