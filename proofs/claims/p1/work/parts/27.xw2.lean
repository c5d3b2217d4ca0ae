theorem k_le60 {n : Int32} (h : n ≤ 60) : n.toInt ≤ 60 := by
  have := Int32.le_iff_toInt_le.mp h
  simpa using this

