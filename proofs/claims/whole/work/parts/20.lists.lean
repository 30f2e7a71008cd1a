/-! the lists, by computation -/
def ascB : List Nat → Bool
  | [] => true
  | a :: r => (match r with | [] => true | b :: _ => decide (b < a)) && ascB r
def etB (b : Nat) : Bool := decide (eR b = tR b) && decide ((eR b).length ≤ 63) && ascB (eR b)
theorem et_all : ∀ b, b < 401 → etB b = true := by decide +kernel
