/-- a compare of two ints, said of their numbers -/
theorem zz_lt {x y : Int32} {a b : Int} (hx : x.toInt = a) (hy : y.toInt = b) (h : x < y) : a < b := by rw [← hx, ← hy]; exact Int32.lt_iff_toInt_lt.mp h
theorem zz_le {x y : Int32} {a b : Int} (hx : x.toInt = a) (hy : y.toInt = b) (h : x ≤ y) : a ≤ b := by rw [← hx, ← hy]; exact Int32.le_iff_toInt_le.mp h
theorem zz_nlt {x y : Int32} {a b : Int} (hx : x.toInt = a) (hy : y.toInt = b) (h : ¬ x < y) : a ≥ b := by
  have h2 : ¬ x.toInt < y.toInt := fun q => h (Int32.lt_iff_toInt_lt.mpr q)
  omega
theorem zz_nle {x y : Int32} {a b : Int} (hx : x.toInt = a) (hy : y.toInt = b) (h : ¬ x ≤ y) : a > b := by
  have h2 : ¬ x.toInt ≤ y.toInt := fun q => h (Int32.le_iff_toInt_le.mpr q)
  omega
theorem zz_eq {x y : Int32} {a b : Int} (hx : x.toInt = a) (hy : y.toInt = b) (h : x = y) : a = b := by rw [← hx, ← hy, h]
theorem zz_neq {x y : Int32} {a b : Int} (hx : x.toInt = a) (hy : y.toInt = b) (h : ¬ x = y) : a ≠ b := by
  intro q
  exact h (Int32.toInt_inj.mp (by rw [hx, hy, q]))

def an_put (s n : Int32) : Int32 := if 0 ≤ s.toInt ∧ s.toInt < 4 ∧ 1 ≤ n.toInt ∧ n.toInt ≤ 8 then -2 else -1
def an_pour (s i n : Int32) : Int32 := if 0 ≤ s.toInt ∧ s.toInt < 4 ∧ 0 ≤ i.toInt ∧ i.toInt ≤ 0 ∧ 0 ≤ n.toInt then -2 else -1
def an_end (s : Int32) : Int32 := if 0 ≤ s.toInt ∧ s.toInt < 4 then -2 else -1
def an_about (s w : Int32) : Int32 := if 0 ≤ s.toInt ∧ s.toInt < 4 ∧ 0 ≤ w.toInt ∧ w.toInt ≤ 8 then -2 else -1
def an_write (s f : Int32) : Int32 := if 0 ≤ s.toInt ∧ s.toInt < 4 ∧ 0 ≤ f.toInt ∧ f.toInt ≤ 5 then -2 else -1
def an_check (f : Int32) : Int32 := if 0 ≤ f.toInt ∧ f.toInt ≤ 5 then -2 else -1
def an_order (s z w : Int32) : Int32 := if 0 ≤ s.toInt ∧ s.toInt < 4 ∧ 0 ≤ z.toInt ∧ z.toInt < 4 ∧ 0 ≤ w.toInt ∧ w.toInt ≤ 2 then -2 else -1
def an_open (s f p : Int32) : Prop := 0 ≤ s.toInt ∧ s.toInt < 4 ∧ 0 ≤ f.toInt ∧ f.toInt ≤ 6 ∧ 0 ≤ p.toInt ∧ p.toInt ≤ 2
