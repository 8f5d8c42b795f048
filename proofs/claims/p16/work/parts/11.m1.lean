/-! the reference: its small methods -/
section M1
theorem b2i_t {p : Bool} (h : p = true) : (1 : Int) = b2i p := by rw [h]; rfl
theorem b2i_f {p : Bool} (h : p = false) : (0 : Int) = b2i p := by rw [h]; rfl
def goesN (a b c : Bool) : Int := if a = true then (if b = true then (if c = true then 0 else 3) else 2) else 1
def inB (v lo hi : Int) : Bool := decide (lo ≤ v ∧ v ≤ hi)
def rowAtN (row w : Int) : Int := if w = 2 then row + 1 else if w = 3 then row - 1 else row
def colAtN (col w n : Int) : Int := if w = 0 then col + 1 else if w = 1 then col - n else col - n / 2
end M1
