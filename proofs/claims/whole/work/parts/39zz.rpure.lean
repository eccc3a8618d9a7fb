theorem nneg {i : Int32} (h : -1 ≤ i) (h2 : ¬ i = -1) : ¬ i < 0 := fun q => by
  have a := Int32.le_iff_toInt_le.mp h
  have b := Int32.lt_iff_toInt_lt.mp q
  have e1 : (-1 : Int32).toInt = -1 := by decide
  have e0 : (0 : Int32).toInt = 0 := by decide
  rw [e1] at a
  rw [e0] at b
  have c : i.toInt = (-1 : Int32).toInt := by rw [e1]; omega
  exact h2 (Int32.toInt_inj.mp c)
