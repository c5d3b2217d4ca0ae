theorem lf_x_type_1 (t : Int32) (b : Int32) (c_2 : t = 0) (c_3 : b < 0) : ((-2) : Int32) = if 0 ≤ t ∧ t ≤ 2 ∧ 0 ≤ b ∧ b ≤ 255 then 1 else -2 := by
  repeat first | rfl | rw [if_pos (by (first | omega | (simp only [Int64.le_iff_toInt_le, Int64.lt_iff_toInt_lt, Int32.le_iff_toInt_le, Int32.lt_iff_toInt_lt, ← Int32.toInt_inj, ← Int64.toInt_inj, Int32.toInt_toInt64, (show (-2 : Int32).toInt = -2 from by decide), (show (-2 : Int64).toInt = -2 from by decide), (show (0 : Int32).toInt = 0 from by decide), (show (0 : Int64).toInt = 0 from by decide), (show (1 : Int32).toInt = 1 from by decide), (show (1 : Int64).toInt = 1 from by decide), (show (2 : Int32).toInt = 2 from by decide), (show (2 : Int64).toInt = 2 from by decide), (show (255 : Int32).toInt = 255 from by decide), (show (255 : Int64).toInt = 255 from by decide)] at *; omega)))] | rw [if_neg (by (first | omega | (simp only [Int64.le_iff_toInt_le, Int64.lt_iff_toInt_lt, Int32.le_iff_toInt_le, Int32.lt_iff_toInt_lt, ← Int32.toInt_inj, ← Int64.toInt_inj, Int32.toInt_toInt64, (show (-2 : Int32).toInt = -2 from by decide), (show (-2 : Int64).toInt = -2 from by decide), (show (0 : Int32).toInt = 0 from by decide), (show (0 : Int64).toInt = 0 from by decide), (show (1 : Int32).toInt = 1 from by decide), (show (1 : Int64).toInt = 1 from by decide), (show (2 : Int32).toInt = 2 from by decide), (show (2 : Int64).toInt = 2 from by decide), (show (255 : Int32).toInt = 255 from by decide), (show (255 : Int64).toInt = 255 from by decide)] at *; omega)))]
theorem lf_x_type_2 (t : Int32) (b : Int32) (c_2 : t = 0) (c_3 : ¬ b < 0) (c_4 : b ≤ 255) (c9 : 24 ≤ (0 : Int32)) : False := by
  (first | omega | (simp only [Int64.le_iff_toInt_le, Int64.lt_iff_toInt_lt, Int32.le_iff_toInt_le, Int32.lt_iff_toInt_lt, ← Int32.toInt_inj, ← Int64.toInt_inj, Int32.toInt_toInt64, (show (0 : Int32).toInt = 0 from by decide), (show (0 : Int64).toInt = 0 from by decide), (show (24 : Int32).toInt = 24 from by decide), (show (24 : Int64).toInt = 24 from by decide), (show (255 : Int32).toInt = 255 from by decide), (show (255 : Int64).toInt = 255 from by decide)] at *; omega))
theorem lf_x_type_3 (t : Int32) (b : Int32) (c_2 : t = 0) (c_3 : ¬ b < 0) (c_4 : b ≤ 255) : (1 : Int32) = if 0 ≤ t ∧ t ≤ 2 ∧ 0 ≤ b ∧ b ≤ 255 then 1 else -2 := by
  repeat first | rfl | rw [if_pos (by (first | omega | (simp only [Int64.le_iff_toInt_le, Int64.lt_iff_toInt_lt, Int32.le_iff_toInt_le, Int32.lt_iff_toInt_lt, ← Int32.toInt_inj, ← Int64.toInt_inj, Int32.toInt_toInt64, (show (-2 : Int32).toInt = -2 from by decide), (show (-2 : Int64).toInt = -2 from by decide), (show (0 : Int32).toInt = 0 from by decide), (show (0 : Int64).toInt = 0 from by decide), (show (1 : Int32).toInt = 1 from by decide), (show (1 : Int64).toInt = 1 from by decide), (show (2 : Int32).toInt = 2 from by decide), (show (2 : Int64).toInt = 2 from by decide), (show (255 : Int32).toInt = 255 from by decide), (show (255 : Int64).toInt = 255 from by decide)] at *; omega)))] | rw [if_neg (by (first | omega | (simp only [Int64.le_iff_toInt_le, Int64.lt_iff_toInt_lt, Int32.le_iff_toInt_le, Int32.lt_iff_toInt_lt, ← Int32.toInt_inj, ← Int64.toInt_inj, Int32.toInt_toInt64, (show (-2 : Int32).toInt = -2 from by decide), (show (-2 : Int64).toInt = -2 from by decide), (show (0 : Int32).toInt = 0 from by decide), (show (0 : Int64).toInt = 0 from by decide), (show (1 : Int32).toInt = 1 from by decide), (show (1 : Int64).toInt = 1 from by decide), (show (2 : Int32).toInt = 2 from by decide), (show (2 : Int64).toInt = 2 from by decide), (show (255 : Int32).toInt = 255 from by decide), (show (255 : Int64).toInt = 255 from by decide)] at *; omega)))]
theorem lf_x_type_4 (t : Int32) (b : Int32) (c_2 : t = 0) (c_3 : ¬ b < 0) (c_4 : ¬ b ≤ 255) : ((-2) : Int32) = if 0 ≤ t ∧ t ≤ 2 ∧ 0 ≤ b ∧ b ≤ 255 then 1 else -2 := by
  repeat first | rfl | rw [if_pos (by (first | omega | (simp only [Int64.le_iff_toInt_le, Int64.lt_iff_toInt_lt, Int32.le_iff_toInt_le, Int32.lt_iff_toInt_lt, ← Int32.toInt_inj, ← Int64.toInt_inj, Int32.toInt_toInt64, (show (-2 : Int32).toInt = -2 from by decide), (show (-2 : Int64).toInt = -2 from by decide), (show (0 : Int32).toInt = 0 from by decide), (show (0 : Int64).toInt = 0 from by decide), (show (1 : Int32).toInt = 1 from by decide), (show (1 : Int64).toInt = 1 from by decide), (show (2 : Int32).toInt = 2 from by decide), (show (2 : Int64).toInt = 2 from by decide), (show (255 : Int32).toInt = 255 from by decide), (show (255 : Int64).toInt = 255 from by decide)] at *; omega)))] | rw [if_neg (by (first | omega | (simp only [Int64.le_iff_toInt_le, Int64.lt_iff_toInt_lt, Int32.le_iff_toInt_le, Int32.lt_iff_toInt_lt, ← Int32.toInt_inj, ← Int64.toInt_inj, Int32.toInt_toInt64, (show (-2 : Int32).toInt = -2 from by decide), (show (-2 : Int64).toInt = -2 from by decide), (show (0 : Int32).toInt = 0 from by decide), (show (0 : Int64).toInt = 0 from by decide), (show (1 : Int32).toInt = 1 from by decide), (show (1 : Int64).toInt = 1 from by decide), (show (2 : Int32).toInt = 2 from by decide), (show (2 : Int64).toInt = 2 from by decide), (show (255 : Int32).toInt = 255 from by decide), (show (255 : Int64).toInt = 255 from by decide)] at *; omega)))]
theorem lf_x_type_5 (t : Int32) (b : Int32) (c_2 : ¬ (t = 0)) (c_10 : t = 1) (c_11 : b < 0) : ((-2) : Int32) = if 0 ≤ t ∧ t ≤ 2 ∧ 0 ≤ b ∧ b ≤ 255 then 1 else -2 := by
  repeat first | rfl | rw [if_pos (by (first | omega | (simp only [Int64.le_iff_toInt_le, Int64.lt_iff_toInt_lt, Int32.le_iff_toInt_le, Int32.lt_iff_toInt_lt, ← Int32.toInt_inj, ← Int64.toInt_inj, Int32.toInt_toInt64, (show (-2 : Int32).toInt = -2 from by decide), (show (-2 : Int64).toInt = -2 from by decide), (show (0 : Int32).toInt = 0 from by decide), (show (0 : Int64).toInt = 0 from by decide), (show (1 : Int32).toInt = 1 from by decide), (show (1 : Int64).toInt = 1 from by decide), (show (2 : Int32).toInt = 2 from by decide), (show (2 : Int64).toInt = 2 from by decide), (show (255 : Int32).toInt = 255 from by decide), (show (255 : Int64).toInt = 255 from by decide)] at *; omega)))] | rw [if_neg (by (first | omega | (simp only [Int64.le_iff_toInt_le, Int64.lt_iff_toInt_lt, Int32.le_iff_toInt_le, Int32.lt_iff_toInt_lt, ← Int32.toInt_inj, ← Int64.toInt_inj, Int32.toInt_toInt64, (show (-2 : Int32).toInt = -2 from by decide), (show (-2 : Int64).toInt = -2 from by decide), (show (0 : Int32).toInt = 0 from by decide), (show (0 : Int64).toInt = 0 from by decide), (show (1 : Int32).toInt = 1 from by decide), (show (1 : Int64).toInt = 1 from by decide), (show (2 : Int32).toInt = 2 from by decide), (show (2 : Int64).toInt = 2 from by decide), (show (255 : Int32).toInt = 255 from by decide), (show (255 : Int64).toInt = 255 from by decide)] at *; omega)))]
theorem lf_x_type_6 (t : Int32) (b : Int32) (c_2 : ¬ (t = 0)) (c_10 : t = 1) (c_11 : ¬ b < 0) (c_12 : b ≤ 255) (c9 : 39 ≤ (0 : Int32)) : False := by
  (first | omega | (simp only [Int64.le_iff_toInt_le, Int64.lt_iff_toInt_lt, Int32.le_iff_toInt_le, Int32.lt_iff_toInt_lt, ← Int32.toInt_inj, ← Int64.toInt_inj, Int32.toInt_toInt64, (show (0 : Int32).toInt = 0 from by decide), (show (0 : Int64).toInt = 0 from by decide), (show (1 : Int32).toInt = 1 from by decide), (show (1 : Int64).toInt = 1 from by decide), (show (39 : Int32).toInt = 39 from by decide), (show (39 : Int64).toInt = 39 from by decide), (show (255 : Int32).toInt = 255 from by decide), (show (255 : Int64).toInt = 255 from by decide)] at *; omega))
theorem lf_x_type_7 (t : Int32) (b : Int32) (c_2 : ¬ (t = 0)) (c_10 : t = 1) (c_11 : ¬ b < 0) (c_12 : b ≤ 255) : (1 : Int32) = if 0 ≤ t ∧ t ≤ 2 ∧ 0 ≤ b ∧ b ≤ 255 then 1 else -2 := by
  repeat first | rfl | rw [if_pos (by (first | omega | (simp only [Int64.le_iff_toInt_le, Int64.lt_iff_toInt_lt, Int32.le_iff_toInt_le, Int32.lt_iff_toInt_lt, ← Int32.toInt_inj, ← Int64.toInt_inj, Int32.toInt_toInt64, (show (-2 : Int32).toInt = -2 from by decide), (show (-2 : Int64).toInt = -2 from by decide), (show (0 : Int32).toInt = 0 from by decide), (show (0 : Int64).toInt = 0 from by decide), (show (1 : Int32).toInt = 1 from by decide), (show (1 : Int64).toInt = 1 from by decide), (show (2 : Int32).toInt = 2 from by decide), (show (2 : Int64).toInt = 2 from by decide), (show (255 : Int32).toInt = 255 from by decide), (show (255 : Int64).toInt = 255 from by decide)] at *; omega)))] | rw [if_neg (by (first | omega | (simp only [Int64.le_iff_toInt_le, Int64.lt_iff_toInt_lt, Int32.le_iff_toInt_le, Int32.lt_iff_toInt_lt, ← Int32.toInt_inj, ← Int64.toInt_inj, Int32.toInt_toInt64, (show (-2 : Int32).toInt = -2 from by decide), (show (-2 : Int64).toInt = -2 from by decide), (show (0 : Int32).toInt = 0 from by decide), (show (0 : Int64).toInt = 0 from by decide), (show (1 : Int32).toInt = 1 from by decide), (show (1 : Int64).toInt = 1 from by decide), (show (2 : Int32).toInt = 2 from by decide), (show (2 : Int64).toInt = 2 from by decide), (show (255 : Int32).toInt = 255 from by decide), (show (255 : Int64).toInt = 255 from by decide)] at *; omega)))]
theorem lf_x_type_8 (t : Int32) (b : Int32) (c_2 : ¬ (t = 0)) (c_10 : t = 1) (c_11 : ¬ b < 0) (c_12 : ¬ b ≤ 255) : ((-2) : Int32) = if 0 ≤ t ∧ t ≤ 2 ∧ 0 ≤ b ∧ b ≤ 255 then 1 else -2 := by
  repeat first | rfl | rw [if_pos (by (first | omega | (simp only [Int64.le_iff_toInt_le, Int64.lt_iff_toInt_lt, Int32.le_iff_toInt_le, Int32.lt_iff_toInt_lt, ← Int32.toInt_inj, ← Int64.toInt_inj, Int32.toInt_toInt64, (show (-2 : Int32).toInt = -2 from by decide), (show (-2 : Int64).toInt = -2 from by decide), (show (0 : Int32).toInt = 0 from by decide), (show (0 : Int64).toInt = 0 from by decide), (show (1 : Int32).toInt = 1 from by decide), (show (1 : Int64).toInt = 1 from by decide), (show (2 : Int32).toInt = 2 from by decide), (show (2 : Int64).toInt = 2 from by decide), (show (255 : Int32).toInt = 255 from by decide), (show (255 : Int64).toInt = 255 from by decide)] at *; omega)))] | rw [if_neg (by (first | omega | (simp only [Int64.le_iff_toInt_le, Int64.lt_iff_toInt_lt, Int32.le_iff_toInt_le, Int32.lt_iff_toInt_lt, ← Int32.toInt_inj, ← Int64.toInt_inj, Int32.toInt_toInt64, (show (-2 : Int32).toInt = -2 from by decide), (show (-2 : Int64).toInt = -2 from by decide), (show (0 : Int32).toInt = 0 from by decide), (show (0 : Int64).toInt = 0 from by decide), (show (1 : Int32).toInt = 1 from by decide), (show (1 : Int64).toInt = 1 from by decide), (show (2 : Int32).toInt = 2 from by decide), (show (2 : Int64).toInt = 2 from by decide), (show (255 : Int32).toInt = 255 from by decide), (show (255 : Int64).toInt = 255 from by decide)] at *; omega)))]
theorem lf_x_type_9 (t : Int32) (b : Int32) (c_2 : ¬ (t = 0)) (c_10 : ¬ (t = 1)) (c_18 : t = 2) (c_19 : b < 0) : ((-2) : Int32) = if 0 ≤ t ∧ t ≤ 2 ∧ 0 ≤ b ∧ b ≤ 255 then 1 else -2 := by
  repeat first | rfl | rw [if_pos (by (first | omega | (simp only [Int64.le_iff_toInt_le, Int64.lt_iff_toInt_lt, Int32.le_iff_toInt_le, Int32.lt_iff_toInt_lt, ← Int32.toInt_inj, ← Int64.toInt_inj, Int32.toInt_toInt64, (show (-2 : Int32).toInt = -2 from by decide), (show (-2 : Int64).toInt = -2 from by decide), (show (0 : Int32).toInt = 0 from by decide), (show (0 : Int64).toInt = 0 from by decide), (show (1 : Int32).toInt = 1 from by decide), (show (1 : Int64).toInt = 1 from by decide), (show (2 : Int32).toInt = 2 from by decide), (show (2 : Int64).toInt = 2 from by decide), (show (255 : Int32).toInt = 255 from by decide), (show (255 : Int64).toInt = 255 from by decide)] at *; omega)))] | rw [if_neg (by (first | omega | (simp only [Int64.le_iff_toInt_le, Int64.lt_iff_toInt_lt, Int32.le_iff_toInt_le, Int32.lt_iff_toInt_lt, ← Int32.toInt_inj, ← Int64.toInt_inj, Int32.toInt_toInt64, (show (-2 : Int32).toInt = -2 from by decide), (show (-2 : Int64).toInt = -2 from by decide), (show (0 : Int32).toInt = 0 from by decide), (show (0 : Int64).toInt = 0 from by decide), (show (1 : Int32).toInt = 1 from by decide), (show (1 : Int64).toInt = 1 from by decide), (show (2 : Int32).toInt = 2 from by decide), (show (2 : Int64).toInt = 2 from by decide), (show (255 : Int32).toInt = 255 from by decide), (show (255 : Int64).toInt = 255 from by decide)] at *; omega)))]
theorem lf_x_type_10 (t : Int32) (b : Int32) (c_2 : ¬ (t = 0)) (c_10 : ¬ (t = 1)) (c_18 : t = 2) (c_19 : ¬ b < 0) (c_20 : b ≤ 255) (c9 : 23 ≤ (0 : Int32)) : False := by
  (first | omega | (simp only [Int64.le_iff_toInt_le, Int64.lt_iff_toInt_lt, Int32.le_iff_toInt_le, Int32.lt_iff_toInt_lt, ← Int32.toInt_inj, ← Int64.toInt_inj, Int32.toInt_toInt64, (show (0 : Int32).toInt = 0 from by decide), (show (0 : Int64).toInt = 0 from by decide), (show (1 : Int32).toInt = 1 from by decide), (show (1 : Int64).toInt = 1 from by decide), (show (2 : Int32).toInt = 2 from by decide), (show (2 : Int64).toInt = 2 from by decide), (show (23 : Int32).toInt = 23 from by decide), (show (23 : Int64).toInt = 23 from by decide), (show (255 : Int32).toInt = 255 from by decide), (show (255 : Int64).toInt = 255 from by decide)] at *; omega))
theorem lf_x_type_11 (t : Int32) (b : Int32) (c_2 : ¬ (t = 0)) (c_10 : ¬ (t = 1)) (c_18 : t = 2) (c_19 : ¬ b < 0) (c_20 : b ≤ 255) : (1 : Int32) = if 0 ≤ t ∧ t ≤ 2 ∧ 0 ≤ b ∧ b ≤ 255 then 1 else -2 := by
  repeat first | rfl | rw [if_pos (by (first | omega | (simp only [Int64.le_iff_toInt_le, Int64.lt_iff_toInt_lt, Int32.le_iff_toInt_le, Int32.lt_iff_toInt_lt, ← Int32.toInt_inj, ← Int64.toInt_inj, Int32.toInt_toInt64, (show (-2 : Int32).toInt = -2 from by decide), (show (-2 : Int64).toInt = -2 from by decide), (show (0 : Int32).toInt = 0 from by decide), (show (0 : Int64).toInt = 0 from by decide), (show (1 : Int32).toInt = 1 from by decide), (show (1 : Int64).toInt = 1 from by decide), (show (2 : Int32).toInt = 2 from by decide), (show (2 : Int64).toInt = 2 from by decide), (show (255 : Int32).toInt = 255 from by decide), (show (255 : Int64).toInt = 255 from by decide)] at *; omega)))] | rw [if_neg (by (first | omega | (simp only [Int64.le_iff_toInt_le, Int64.lt_iff_toInt_lt, Int32.le_iff_toInt_le, Int32.lt_iff_toInt_lt, ← Int32.toInt_inj, ← Int64.toInt_inj, Int32.toInt_toInt64, (show (-2 : Int32).toInt = -2 from by decide), (show (-2 : Int64).toInt = -2 from by decide), (show (0 : Int32).toInt = 0 from by decide), (show (0 : Int64).toInt = 0 from by decide), (show (1 : Int32).toInt = 1 from by decide), (show (1 : Int64).toInt = 1 from by decide), (show (2 : Int32).toInt = 2 from by decide), (show (2 : Int64).toInt = 2 from by decide), (show (255 : Int32).toInt = 255 from by decide), (show (255 : Int64).toInt = 255 from by decide)] at *; omega)))]
theorem lf_x_type_12 (t : Int32) (b : Int32) (c_2 : ¬ (t = 0)) (c_10 : ¬ (t = 1)) (c_18 : t = 2) (c_19 : ¬ b < 0) (c_20 : ¬ b ≤ 255) : ((-2) : Int32) = if 0 ≤ t ∧ t ≤ 2 ∧ 0 ≤ b ∧ b ≤ 255 then 1 else -2 := by
  repeat first | rfl | rw [if_pos (by (first | omega | (simp only [Int64.le_iff_toInt_le, Int64.lt_iff_toInt_lt, Int32.le_iff_toInt_le, Int32.lt_iff_toInt_lt, ← Int32.toInt_inj, ← Int64.toInt_inj, Int32.toInt_toInt64, (show (-2 : Int32).toInt = -2 from by decide), (show (-2 : Int64).toInt = -2 from by decide), (show (0 : Int32).toInt = 0 from by decide), (show (0 : Int64).toInt = 0 from by decide), (show (1 : Int32).toInt = 1 from by decide), (show (1 : Int64).toInt = 1 from by decide), (show (2 : Int32).toInt = 2 from by decide), (show (2 : Int64).toInt = 2 from by decide), (show (255 : Int32).toInt = 255 from by decide), (show (255 : Int64).toInt = 255 from by decide)] at *; omega)))] | rw [if_neg (by (first | omega | (simp only [Int64.le_iff_toInt_le, Int64.lt_iff_toInt_lt, Int32.le_iff_toInt_le, Int32.lt_iff_toInt_lt, ← Int32.toInt_inj, ← Int64.toInt_inj, Int32.toInt_toInt64, (show (-2 : Int32).toInt = -2 from by decide), (show (-2 : Int64).toInt = -2 from by decide), (show (0 : Int32).toInt = 0 from by decide), (show (0 : Int64).toInt = 0 from by decide), (show (1 : Int32).toInt = 1 from by decide), (show (1 : Int64).toInt = 1 from by decide), (show (2 : Int32).toInt = 2 from by decide), (show (2 : Int64).toInt = 2 from by decide), (show (255 : Int32).toInt = 255 from by decide), (show (255 : Int64).toInt = 255 from by decide)] at *; omega)))]
theorem lf_x_type_13 (t : Int32) (b : Int32) (c_2 : ¬ (t = 0)) (c_10 : ¬ (t = 1)) (c_18 : ¬ (t = 2)) : ((-2) : Int32) = if 0 ≤ t ∧ t ≤ 2 ∧ 0 ≤ b ∧ b ≤ 255 then 1 else -2 := by
  repeat first | rfl | rw [if_pos (by (first | omega | (simp only [Int64.le_iff_toInt_le, Int64.lt_iff_toInt_lt, Int32.le_iff_toInt_le, Int32.lt_iff_toInt_lt, ← Int32.toInt_inj, ← Int64.toInt_inj, Int32.toInt_toInt64, (show (-2 : Int32).toInt = -2 from by decide), (show (-2 : Int64).toInt = -2 from by decide), (show (0 : Int32).toInt = 0 from by decide), (show (0 : Int64).toInt = 0 from by decide), (show (1 : Int32).toInt = 1 from by decide), (show (1 : Int64).toInt = 1 from by decide), (show (2 : Int32).toInt = 2 from by decide), (show (2 : Int64).toInt = 2 from by decide), (show (255 : Int32).toInt = 255 from by decide), (show (255 : Int64).toInt = 255 from by decide)] at *; omega)))] | rw [if_neg (by (first | omega | (simp only [Int64.le_iff_toInt_le, Int64.lt_iff_toInt_lt, Int32.le_iff_toInt_le, Int32.lt_iff_toInt_lt, ← Int32.toInt_inj, ← Int64.toInt_inj, Int32.toInt_toInt64, (show (-2 : Int32).toInt = -2 from by decide), (show (-2 : Int64).toInt = -2 from by decide), (show (0 : Int32).toInt = 0 from by decide), (show (0 : Int64).toInt = 0 from by decide), (show (1 : Int32).toInt = 1 from by decide), (show (1 : Int64).toInt = 1 from by decide), (show (2 : Int32).toInt = 2 from by decide), (show (2 : Int64).toInt = 2 from by decide), (show (255 : Int32).toInt = 255 from by decide), (show (255 : Int64).toInt = 255 from by decide)] at *; omega)))]
set_option maxHeartbeats 4000000 in
set_option maxRecDepth 100000 in
theorem x_type (l : Launch) (dC : Nat → ClassId) (dI : Nat → Nat → Nat) (cI cJ cQ : ClassId) (sz : Nat) (hx : Nat) (t : Int32) (b : Int32) (aLa : Nat) (aPa : Nat) (aGe : Nat) (aFl : Nat) (aTr : Nat) (aBe : Nat) (aLu : Nat) (aLo : Nat) (vSf : Nat) (vSm : Nat) (vCo : Nat) (vSh : Nat) (vLa : Nat) (vPa : Nat) (vGe : Nat) : Met l yX11_type (kW yX11_type cX11_type 4 (some .int)) { frames := 3, cells := 0, slots := 0, locals := 63 } (kPre dC dI cI cJ cQ sz [.ref hx, .int t, .int b] [(hx, .inr (10, [.ref aLa, .ref aPa, .ref aGe, .ref aFl, .ref aTr, .ref aBe, .ref aLu, .ref aLo, .ref vSf, .ref vSm, .ref vCo, .ref vSh, .int 0, .int 0, .int 0])), (aLa, .inr (4, [.ref vLa, .int 0, .int (-1), .int 0])), (vLa, .inl (cI, 24, .inl (fun _ => 0))), (aPa, .inr (7, [.ref vPa, .int 0, .int (-1), .int 0])), (vPa, .inl (cI, 39, .inl (fun _ => 0))), (aGe, .inr (2, [.ref vGe, .int 0, .int (-1), .int 0])), (vGe, .inl (cI, 23, .inl (fun _ => 0)))]) (va_Qi (fun (r : Int32) (_ : Unit) => r = if 0 ≤ t ∧ t ≤ 2 ∧ 0 ≤ b ∧ b ≤ 255 then 1 else -2) (fun _ _ => True) (va_A [(hx, .inr (10, [.ref aLa, .ref aPa, .ref aGe, .ref aFl, .ref aTr, .ref aBe, .ref aLu, .ref aLo, .ref vSf, .ref vSm, .ref vCo, .ref vSh, .int 0, .int 0, .int 0])), (aLa, .inr (4, [.ref vLa, .int 0, .int (-1), .int 0])), (vLa, .inl (cI, 24, .inl (fun _ => 0))), (aPa, .inr (7, [.ref vPa, .int 0, .int (-1), .int 0])), (vPa, .inl (cI, 39, .inl (fun _ => 0))), (aGe, .inr (2, [.ref vGe, .int 0, .int (-1), .int 0])), (vGe, .inl (cI, 23, .inl (fun _ => 0)))] sz)) 0 0 (va_A [(hx, .inr (10, [.ref aLa, .ref aPa, .ref aGe, .ref aFl, .ref aTr, .ref aBe, .ref aLu, .ref aLo, .ref vSf, .ref vSm, .ref vCo, .ref vSh, .int 0, .int 0, .int 0])), (aLa, .inr (4, [.ref vLa, .int 0, .int (-1), .int 0])), (vLa, .inl (cI, 24, .inl (fun _ => 0))), (aPa, .inr (7, [.ref vPa, .int 0, .int (-1), .int 0])), (vPa, .inl (cI, 39, .inl (fun _ => 0))), (aGe, .inr (2, [.ref vGe, .int 0, .int (-1), .int 0])), (vGe, .inl (cI, 23, .inl (fun _ => 0)))] sz) := by
  refine Met.ofW (cc := cX11_type) (maxL := 4) (ret := (some .int)) (by decide) rfl ?_
  intro p₀ e₀ s₀ m₀ args below meth c₀ s₁ B hml hv₀
  obtain ⟨rfl, hsz, hP, hK, hD0, hN⟩ := hv₀
  have hx₀ := B.exec
  have hb := B.bytes
  have hr := B.returns
  have hts := atoms_spec (ws := (kW yX11_type cX11_type 4 (some .int))) B.pre
  have hts := fun w h => hts w (List.mem_cons_of_mem _ h)
  have hown : s₀.vm.findClass RX11 = some m₀.cls := findClass_of_methodNamed B.named
  have hlocks := B.notSynchronized
  subst hsz
  have hD := hD0.self (sz := s₀.heap.size)
  generalize hAe : va_A [(hx, .inr (10, [.ref aLa, .ref aPa, .ref aGe, .ref aFl, .ref aTr, .ref aBe, .ref aLu, .ref aLo, .ref vSf, .ref vSm, .ref vCo, .ref vSh, .int 0, .int 0, .int 0])), (aLa, .inr (4, [.ref vLa, .int 0, .int (-1), .int 0])), (vLa, .inl (cI, 24, .inl (fun _ => 0))), (aPa, .inr (7, [.ref vPa, .int 0, .int (-1), .int 0])), (vPa, .inl (cI, 39, .inl (fun _ => 0))), (aGe, .inr (2, [.ref vGe, .int 0, .int (-1), .int 0])), (vGe, .inl (cI, 23, .inl (fun _ => 0)))] s₀.heap.size = A at hD ⊢
  have hA : ∀ q : Nat, s₀.heap.size ≤ q → A q := fun q h => by rw [← hAe]; exact Or.inr h
  have hS : va_S A s₀.heap s₀.heap [] := va_S.rf
  have hP : va_P (dC, dI) vwCl [(hx, .inr (10, [.ref aLa, .ref aPa, .ref aGe, .ref aFl, .ref aTr, .ref aBe, .ref aLu, .ref aLo, .ref vSf, .ref vSm, .ref vCo, .ref vSh, .int 0, .int 0, .int 0])), (aLa, .inr (4, [.ref vLa, .int 0, .int (-1), .int 0])), (vLa, .inl (cI, 24, .inl (fun _ => 0))), (aPa, .inr (7, [.ref vPa, .int 0, .int (-1), .int 0])), (vPa, .inl (cI, 39, .inl (fun _ => 0))), (aGe, .inr (2, [.ref vGe, .int 0, .int (-1), .int 0])), (vGe, .inl (cI, 23, .inl (fun _ => 0)))] s₀.heap := hP
  have hl := lv_entry ([.ref hx, .int t, .int b]) (n := 4) (Nat.le_of_ble_eq_true rfl)
  rw [lg_entry_eq]
  generalize (lg_sl ([.ref hx, .int t, .int b]) ++ List.replicate (4 - (lg_sl ([.ref hx, .int t, .int b])).length) Slot.unset).toArray = ls at hl ⊢
  have hl : lv_has ls 4 [(0, .ref hx), (1, .int t), (2, .int b)] := hl
  obtain ⟨H, hH⟩ : ∃ z : Heap, z = s₀.heap := ⟨_, rfl⟩
  rw [← hH] at hP
  have hS : va_S A s₀.heap H [] := by rw [hH]; exact hS
  refine k_heap hH ?_
  have hD : va_D A [(hx, .inr (10, [.ref aLa, .ref aPa, .ref aGe, .ref aFl, .ref aTr, .ref aBe, .ref aLu, .ref aLo, .ref vSf, .ref vSm, .ref vCo, .ref vSh, .int 0, .int 0, .int 0])), (aLa, .inr (4, [.ref vLa, .int 0, .int (-1), .int 0])), (vLa, .inl (cI, 24, .inl (fun _ => 0))), (aPa, .inr (7, [.ref vPa, .int 0, .int (-1), .int 0])), (vPa, .inl (cI, 39, .inl (fun _ => 0))), (aGe, .inr (2, [.ref vGe, .int 0, .int (-1), .int 0])), (vGe, .inl (cI, 23, .inl (fun _ => 0)))] := hD
  obtain ⟨locs, hlo⟩ : ∃ z : List Loc, z = [] := ⟨_, rfl⟩
  rw [← hlo] at hS ⊢
  clear hlo hH hAe hD0
  refine lv_aload_n hx₀ hb dX11_type_0 rfl (lv_at hl 0 rfl) ?_
  refine lv_iload_n hx₀ hb dX11_type_1 rfl (lv_at hl 1 rfl) ?_
  have hPc := hP.sub (ws' := [(hx, .inr (10, [.ref aLa, .ref aPa, .ref aGe, .ref aFl, .ref aTr, .ref aBe, .ref aLu, .ref aLo, .ref vSf, .ref vSm, .ref vCo, .ref vSh, .int 0, .int 0, .int 0]))]) [0] rfl
  have hDc := hD.sub (ws' := [(hx, .inr (10, [.ref aLa, .ref aPa, .ref aGe, .ref aFl, .ref aTr, .ref aBe, .ref aLu, .ref aLo, .ref vSf, .ref vSm, .ref vCo, .ref vSh, .int 0, .int 0, .int 0]))]) [0] (by decide) rfl
  have hFc := va_free (wc := [(hx, .inr (10, [.ref aLa, .ref aPa, .ref aGe, .ref aFl, .ref aTr, .ref aBe, .ref aLu, .ref aLo, .ref vSf, .ref vSm, .ref vCo, .ref vSh, .int 0, .int 0, .int 0]))]) hD hS hA [0] rfl
  refine va_callq (va_runV (As := [.int t]) (rest := []) ⟨hx₀, hb, hml, hown, hts⟩ (c_textOf l dC dI cI cJ cQ H.size hx t aLa aPa aGe aFl aTr aBe aLu aLo vSf vSm vCo vSh) (cwV 1 hts (kGV wd_141 wd_138 wd_139 wd_140 wd_2) rfl rfl rfl (by decide +kernel) ⟨Nat.le_of_ble_eq_true rfl, Nat.le_of_ble_eq_true rfl⟩) (k_preV (ci := 10) (q0 := 0) hK hPc hDc hN rfl rfl) rfl rfl hl.1 rfl (lv_room (Nat.le_of_ble_eq_true rfl)) dX11_type_2 ⟨by decide +kernel, by decide +kernel⟩) hS (fun q _ h => hFc q h) hFc (fun r_1 u₀ t₀ H1 locs ht hvm hw hB hz1 hk1 hS => ?_)
  obtain ⟨hP1, hK1, hD1⟩ := hB
  rw [ht] at hP1
  obtain ⟨hP, hD⟩ := va_join (wr := [(aLa, .inr (4, [.ref vLa, .int 0, .int (-1), .int 0])), (vLa, .inl (cI, 24, .inl (fun _ => 0))), (aPa, .inr (7, [.ref vPa, .int 0, .int (-1), .int 0])), (vPa, .inl (cI, 39, .inl (fun _ => 0))), (aGe, .inr (2, [.ref vGe, .int 0, .int (-1), .int 0])), (vGe, .inl (cI, 23, .inl (fun _ => 0)))]) (w1 := [(hx, .inr (10, [.ref aLa, .ref aPa, .ref aGe, .ref aFl, .ref aTr, .ref aBe, .ref aLu, .ref aLo, .ref vSf, .ref vSm, .ref vCo, .ref vSh, .int 0, .int 0, .int 0]))]) hP hD [0] [1, 2, 3, 4, 5, 6] rfl rfl (by decide) (by decide) hk1 hFc hP1 hD1
  generalize H1 = H at hP hS ⊢
  have hP : va_P (dC, dI) vwCl [(aLa, .inr (4, [.ref vLa, .int 0, .int (-1), .int 0])), (vLa, .inl (cI, 24, .inl (fun _ => 0))), (aPa, .inr (7, [.ref vPa, .int 0, .int (-1), .int 0])), (vPa, .inl (cI, 39, .inl (fun _ => 0))), (aGe, .inr (2, [.ref vGe, .int 0, .int (-1), .int 0])), (vGe, .inl (cI, 23, .inl (fun _ => 0))), (hx, .inr (10, [.ref aLa, .ref aPa, .ref aGe, .ref aFl, .ref aTr, .ref aBe, .ref aLu, .ref aLo, .ref vSf, .ref vSm, .ref vCo, .ref vSh, .int 0, .int 0, .int 0]))] H := hP
  have hD : va_D A [(aLa, .inr (4, [.ref vLa, .int 0, .int (-1), .int 0])), (vLa, .inl (cI, 24, .inl (fun _ => 0))), (aPa, .inr (7, [.ref vPa, .int 0, .int (-1), .int 0])), (vPa, .inl (cI, 39, .inl (fun _ => 0))), (aGe, .inr (2, [.ref vGe, .int 0, .int (-1), .int 0])), (vGe, .inl (cI, 23, .inl (fun _ => 0))), (hx, .inr (10, [.ref aLa, .ref aPa, .ref aGe, .ref aFl, .ref aTr, .ref aBe, .ref aLu, .ref aLo, .ref vSf, .ref vSm, .ref vCo, .ref vSh, .int 0, .int 0, .int 0]))] := hD
  try dsimp only at hw
  by_cases c_2 : t = 0
  · rw [if_pos c_2] at hw
    subst hw
    refine W.eq (g2 := F0 m₀ 5 ls [.ref aLa]) rfl ?_
    refine lv_astore_n (lv' := [(3, .ref aLa), (0, .ref hx), (1, .int t), (2, .int b)]) hx₀ hb dX11_type_5 rfl hl (by decide) rfl (fun ls hl => ?_)
    refine lv_aload_n hx₀ hb dX11_type_6 rfl (lv_at hl 0 rfl) ?_
    refine lv_ifnull hx₀ hb dX11_type_7 ?_
    refine lv_iload_n hx₀ hb dX11_type_10 rfl (lv_at hl 3 rfl) ?_
    refine lv_if_lt (tgt := 21) hx₀ hb dX11_type_11 (by decide) (fun c_3 => ?_) (fun c_3 => ?_)
    · refine lv_bipush (v := (-2)) hx₀ hb dX11_type_21 (by decide +kernel) ?_
      exact W.iret (v := (-2)) hx₀ hb hr (fun t₀ ht hW => ⟨⟨(-2), (), rfl, (lf_x_type_1 t b c_2 c_3), trivial⟩, hS.F ht⟩) hS.2.2 dX11_type_23
    · refine lv_iload_n hx₀ hb dX11_type_14 rfl (lv_at hl 3 rfl) ?_
      refine lv_sipush (v := 255) hx₀ hb dX11_type_15 (by decide +kernel) ?_
      refine lv_icmp_le (tgt := 24) hx₀ hb dX11_type_18 (by decide) (fun c_4 => ?_) (fun c_4 => ?_)
      · refine lv_aload_n hx₀ hb dX11_type_24 rfl (lv_at hl 0 rfl) ?_
        have hPc := hP.sub (ws' := [(aLa, .inr (4, [.ref vLa, .int 0, .int (-1), .int 0])), (vLa, .inl (cI, 24, .inl (fun _ => 0)))]) [0, 1] rfl
        have hDc := hD.sub (ws' := [(aLa, .inr (4, [.ref vLa, .int 0, .int (-1), .int 0])), (vLa, .inl (cI, 24, .inl (fun _ => 0)))]) [0, 1] (by decide) rfl
        have hFc := va_free (wc := [(aLa, .inr (4, [.ref vLa, .int 0, .int (-1), .int 0])), (vLa, .inl (cI, 24, .inl (fun _ => 0)))]) hD hS hA [0, 1] rfl
        refine va_calli (va_runU (As := []) (rest := []) ⟨hx₀, hb, hml, hown, hts⟩ (c_isFull_X4 l dC dI cI cJ cQ H.size aLa vLa 0 (-1) 0 (fun _ => 0)) (va_cwU 0 hts (kGU wd_146 wd_142 wd_143 wd_148 wd_145 wd_57) rfl rfl rfl rfl (by decide +kernel) ⟨Nat.le_of_ble_eq_true rfl, Nat.le_of_ble_eq_true rfl⟩) (k_preV (ci := 4) (q0 := 0) hK hPc hDc hN rfl rfl) rfl rfl hl.1 rfl (lv_room (Nat.le_of_ble_eq_true rfl)) dX11_type_25 ⟨by decide +kernel, by decide +kernel⟩) hS (fun q _ h => hFc q h) hFc (fun r_5 u₀ t₀ H1 locs ht hvm hw hB hz1 hk1 hS => ?_)
        obtain ⟨hP1, hK1, hD1⟩ := hB
        rw [ht] at hP1
        obtain ⟨hP, hD⟩ := va_join (wr := [(aPa, .inr (7, [.ref vPa, .int 0, .int (-1), .int 0])), (vPa, .inl (cI, 39, .inl (fun _ => 0))), (aGe, .inr (2, [.ref vGe, .int 0, .int (-1), .int 0])), (vGe, .inl (cI, 23, .inl (fun _ => 0))), (hx, .inr (10, [.ref aLa, .ref aPa, .ref aGe, .ref aFl, .ref aTr, .ref aBe, .ref aLu, .ref aLo, .ref vSf, .ref vSm, .ref vCo, .ref vSh, .int 0, .int 0, .int 0]))]) (w1 := [(aLa, .inr (4, [.ref vLa, .int 0, .int (-1), .int 0])), (vLa, .inl (cI, 24, .inl (fun _ => 0)))]) hP hD [0, 1] [2, 3, 4, 5, 6] rfl rfl (by decide) (by decide) hk1 hFc hP1 hD1
        generalize H1 = H at hP hS ⊢
        have hP : va_P (dC, dI) vwCl [(aPa, .inr (7, [.ref vPa, .int 0, .int (-1), .int 0])), (vPa, .inl (cI, 39, .inl (fun _ => 0))), (aGe, .inr (2, [.ref vGe, .int 0, .int (-1), .int 0])), (vGe, .inl (cI, 23, .inl (fun _ => 0))), (hx, .inr (10, [.ref aLa, .ref aPa, .ref aGe, .ref aFl, .ref aTr, .ref aBe, .ref aLu, .ref aLo, .ref vSf, .ref vSm, .ref vCo, .ref vSh, .int 0, .int 0, .int 0])), (aLa, .inr (4, [.ref vLa, .int 0, .int (-1), .int 0])), (vLa, .inl (cI, 24, .inl (fun _ => 0)))] H := hP
        have hD : va_D A [(aPa, .inr (7, [.ref vPa, .int 0, .int (-1), .int 0])), (vPa, .inl (cI, 39, .inl (fun _ => 0))), (aGe, .inr (2, [.ref vGe, .int 0, .int (-1), .int 0])), (vGe, .inl (cI, 23, .inl (fun _ => 0))), (hx, .inr (10, [.ref aLa, .ref aPa, .ref aGe, .ref aFl, .ref aTr, .ref aBe, .ref aLu, .ref aLo, .ref vSf, .ref vSm, .ref vCo, .ref vSh, .int 0, .int 0, .int 0])), (aLa, .inr (4, [.ref vLa, .int 0, .int (-1), .int 0])), (vLa, .inl (cI, 24, .inl (fun _ => 0)))] := hD
        try dsimp only at hw
        rw [if_neg (fun c9 => lf_x_type_2 t b c_2 c_3 c_4 c9)] at hw
        refine k_topi (v := 0) hw ?_
        refine lv_if_eq (tgt := 34) hx₀ hb dX11_type_28 (by decide) (fun _ => ?_) (fun c9 => absurd (by decide +kernel) c9)
        refine lv_aload_n hx₀ hb dX11_type_34 rfl (lv_at hl 0 rfl) ?_
        refine lv_iload_n hx₀ hb dX11_type_35 rfl (lv_at hl 3 rfl) ?_
        have hPc := hP.sub (ws' := [(aLa, .inr (4, [.ref vLa, .int 0, .int (-1), .int 0])), (vLa, .inl (cI, 24, .inl (fun _ => 0)))]) [5, 6] rfl
        have hDc := hD.sub (ws' := [(aLa, .inr (4, [.ref vLa, .int 0, .int (-1), .int 0])), (vLa, .inl (cI, 24, .inl (fun _ => 0)))]) [5, 6] (by decide) rfl
        have hFc := va_free (wc := [(aLa, .inr (4, [.ref vLa, .int 0, .int (-1), .int 0])), (vLa, .inl (cI, 24, .inl (fun _ => 0)))]) hD hS hA [5, 6] rfl
        refine va_callv (va_runU (As := [.int b]) (rest := []) ⟨hx₀, hb, hml, hown, hts⟩ (c_append0_X4 l dC dI cI cJ cQ H.size aLa b vLa (-1) 0 (fun _ => 0)) (va_cwU 1 hts (kGU wd_154 wd_150 wd_151 wd_195 wd_153 wd_57) rfl rfl rfl rfl (by decide +kernel) ⟨Nat.le_of_ble_eq_true rfl, Nat.le_of_ble_eq_true rfl⟩) (k_preV (ci := 4) (q0 := 0) hK hPc hDc hN rfl rfl) rfl rfl hl.1 rfl (lv_room (Nat.le_of_ble_eq_true rfl)) dX11_type_36 ⟨by decide +kernel, by decide +kernel⟩) hS (fun q _ h => hFc q h) hFc (fun u₀ t₀ H1 locs ht hvm hw hB hz1 hk1 hS => ?_)
        obtain ⟨qn_8, qn_9⟩ := u₀
        obtain ⟨hP1, hK1, hD1⟩ := hB
        rw [ht] at hP1
        obtain ⟨hP, hD⟩ := va_join (wr := [(aPa, .inr (7, [.ref vPa, .int 0, .int (-1), .int 0])), (vPa, .inl (cI, 39, .inl (fun _ => 0))), (aGe, .inr (2, [.ref vGe, .int 0, .int (-1), .int 0])), (vGe, .inl (cI, 23, .inl (fun _ => 0))), (hx, .inr (10, [.ref aLa, .ref aPa, .ref aGe, .ref aFl, .ref aTr, .ref aBe, .ref aLu, .ref aLo, .ref vSf, .ref vSm, .ref vCo, .ref vSh, .int 0, .int 0, .int 0]))]) (w1 := [(aLa, .inr (4, [.ref vLa, .int 1, .int qn_8, .int qn_9]))]) hP hD [5, 6] [0, 1, 2, 3, 4] rfl rfl (by decide) (by decide) hk1 hFc hP1 hD1
        generalize H1 = H at hP hS ⊢
        have hP : va_P (dC, dI) vwCl [(aPa, .inr (7, [.ref vPa, .int 0, .int (-1), .int 0])), (vPa, .inl (cI, 39, .inl (fun _ => 0))), (aGe, .inr (2, [.ref vGe, .int 0, .int (-1), .int 0])), (vGe, .inl (cI, 23, .inl (fun _ => 0))), (hx, .inr (10, [.ref aLa, .ref aPa, .ref aGe, .ref aFl, .ref aTr, .ref aBe, .ref aLu, .ref aLo, .ref vSf, .ref vSm, .ref vCo, .ref vSh, .int 0, .int 0, .int 0])), (aLa, .inr (4, [.ref vLa, .int 1, .int qn_8, .int qn_9]))] H := hP
        have hD : va_D A [(aPa, .inr (7, [.ref vPa, .int 0, .int (-1), .int 0])), (vPa, .inl (cI, 39, .inl (fun _ => 0))), (aGe, .inr (2, [.ref vGe, .int 0, .int (-1), .int 0])), (vGe, .inl (cI, 23, .inl (fun _ => 0))), (hx, .inr (10, [.ref aLa, .ref aPa, .ref aGe, .ref aFl, .ref aTr, .ref aBe, .ref aLu, .ref aLo, .ref vSf, .ref vSm, .ref vCo, .ref vSh, .int 0, .int 0, .int 0])), (aLa, .inr (4, [.ref vLa, .int 1, .int qn_8, .int qn_9]))] := hD
        refine lv_aload_n hx₀ hb dX11_type_39 rfl (lv_at hl 0 rfl) ?_
        refine va_get (D := (dC, dI)) (ci := 4) (v := .int 1) (C := RX4) (T := TX4) (N := 4) hx₀ hb hts inlX4 hown hK hP 5 rfl rfl 1 (by decide) (hts (.fieldLink RX11 98 "BittenStick$Text" "length" "I") wd_137) (fun _ h9 => h9) rfl dX11_type_40 ?_
        exact W.iret (v := 1) hx₀ hb hr (fun t₀ ht hW => ⟨⟨1, (), rfl, (lf_x_type_3 t b c_2 c_3 c_4), trivial⟩, hS.F ht⟩) hS.2.2 dX11_type_43
      · refine lv_bipush (v := (-2)) hx₀ hb dX11_type_21 (by decide +kernel) ?_
        exact W.iret (v := (-2)) hx₀ hb hr (fun t₀ ht hW => ⟨⟨(-2), (), rfl, (lf_x_type_4 t b c_2 c_3 c_4), trivial⟩, hS.F ht⟩) hS.2.2 dX11_type_23
  rw [if_neg c_2] at hw
  by_cases c_10 : t = 1
  · rw [if_pos c_10] at hw
    subst hw
    refine W.eq (g2 := F0 m₀ 5 ls [.ref aPa]) rfl ?_
    refine lv_astore_n (lv' := [(3, .ref aPa), (0, .ref hx), (1, .int t), (2, .int b)]) hx₀ hb dX11_type_5 rfl hl (by decide) rfl (fun ls hl => ?_)
    refine lv_aload_n hx₀ hb dX11_type_6 rfl (lv_at hl 0 rfl) ?_
    refine lv_ifnull hx₀ hb dX11_type_7 ?_
    refine lv_iload_n hx₀ hb dX11_type_10 rfl (lv_at hl 3 rfl) ?_
    refine lv_if_lt (tgt := 21) hx₀ hb dX11_type_11 (by decide) (fun c_11 => ?_) (fun c_11 => ?_)
    · refine lv_bipush (v := (-2)) hx₀ hb dX11_type_21 (by decide +kernel) ?_
      exact W.iret (v := (-2)) hx₀ hb hr (fun t₀ ht hW => ⟨⟨(-2), (), rfl, (lf_x_type_5 t b c_2 c_10 c_11), trivial⟩, hS.F ht⟩) hS.2.2 dX11_type_23
    · refine lv_iload_n hx₀ hb dX11_type_14 rfl (lv_at hl 3 rfl) ?_
      refine lv_sipush (v := 255) hx₀ hb dX11_type_15 (by decide +kernel) ?_
      refine lv_icmp_le (tgt := 24) hx₀ hb dX11_type_18 (by decide) (fun c_12 => ?_) (fun c_12 => ?_)
      · refine lv_aload_n hx₀ hb dX11_type_24 rfl (lv_at hl 0 rfl) ?_
        have hPc := hP.sub (ws' := [(aPa, .inr (7, [.ref vPa, .int 0, .int (-1), .int 0])), (vPa, .inl (cI, 39, .inl (fun _ => 0)))]) [2, 3] rfl
        have hDc := hD.sub (ws' := [(aPa, .inr (7, [.ref vPa, .int 0, .int (-1), .int 0])), (vPa, .inl (cI, 39, .inl (fun _ => 0)))]) [2, 3] (by decide) rfl
        have hFc := va_free (wc := [(aPa, .inr (7, [.ref vPa, .int 0, .int (-1), .int 0])), (vPa, .inl (cI, 39, .inl (fun _ => 0)))]) hD hS hA [2, 3] rfl
        refine va_calli (va_runU (As := []) (rest := []) ⟨hx₀, hb, hml, hown, hts⟩ (c_isFull_X7 l dC dI cI cJ cQ H.size aPa vPa 0 (-1) 0 (fun _ => 0)) (va_cwU 0 hts (kGU wd_146 wd_142 wd_143 wd_149 wd_145 wd_57) rfl rfl rfl rfl (by decide +kernel) ⟨Nat.le_of_ble_eq_true rfl, Nat.le_of_ble_eq_true rfl⟩) (k_preV (ci := 7) (q0 := 0) hK hPc hDc hN rfl rfl) rfl rfl hl.1 rfl (lv_room (Nat.le_of_ble_eq_true rfl)) dX11_type_25 ⟨by decide +kernel, by decide +kernel⟩) hS (fun q _ h => hFc q h) hFc (fun r_13 u₀ t₀ H1 locs ht hvm hw hB hz1 hk1 hS => ?_)
        obtain ⟨hP1, hK1, hD1⟩ := hB
        rw [ht] at hP1
        obtain ⟨hP, hD⟩ := va_join (wr := [(aLa, .inr (4, [.ref vLa, .int 0, .int (-1), .int 0])), (vLa, .inl (cI, 24, .inl (fun _ => 0))), (aGe, .inr (2, [.ref vGe, .int 0, .int (-1), .int 0])), (vGe, .inl (cI, 23, .inl (fun _ => 0))), (hx, .inr (10, [.ref aLa, .ref aPa, .ref aGe, .ref aFl, .ref aTr, .ref aBe, .ref aLu, .ref aLo, .ref vSf, .ref vSm, .ref vCo, .ref vSh, .int 0, .int 0, .int 0]))]) (w1 := [(aPa, .inr (7, [.ref vPa, .int 0, .int (-1), .int 0])), (vPa, .inl (cI, 39, .inl (fun _ => 0)))]) hP hD [2, 3] [0, 1, 4, 5, 6] rfl rfl (by decide) (by decide) hk1 hFc hP1 hD1
        generalize H1 = H at hP hS ⊢
        have hP : va_P (dC, dI) vwCl [(aLa, .inr (4, [.ref vLa, .int 0, .int (-1), .int 0])), (vLa, .inl (cI, 24, .inl (fun _ => 0))), (aGe, .inr (2, [.ref vGe, .int 0, .int (-1), .int 0])), (vGe, .inl (cI, 23, .inl (fun _ => 0))), (hx, .inr (10, [.ref aLa, .ref aPa, .ref aGe, .ref aFl, .ref aTr, .ref aBe, .ref aLu, .ref aLo, .ref vSf, .ref vSm, .ref vCo, .ref vSh, .int 0, .int 0, .int 0])), (aPa, .inr (7, [.ref vPa, .int 0, .int (-1), .int 0])), (vPa, .inl (cI, 39, .inl (fun _ => 0)))] H := hP
        have hD : va_D A [(aLa, .inr (4, [.ref vLa, .int 0, .int (-1), .int 0])), (vLa, .inl (cI, 24, .inl (fun _ => 0))), (aGe, .inr (2, [.ref vGe, .int 0, .int (-1), .int 0])), (vGe, .inl (cI, 23, .inl (fun _ => 0))), (hx, .inr (10, [.ref aLa, .ref aPa, .ref aGe, .ref aFl, .ref aTr, .ref aBe, .ref aLu, .ref aLo, .ref vSf, .ref vSm, .ref vCo, .ref vSh, .int 0, .int 0, .int 0])), (aPa, .inr (7, [.ref vPa, .int 0, .int (-1), .int 0])), (vPa, .inl (cI, 39, .inl (fun _ => 0)))] := hD
        try dsimp only at hw
        rw [if_neg (fun c9 => lf_x_type_6 t b c_2 c_10 c_11 c_12 c9)] at hw
        refine k_topi (v := 0) hw ?_
        refine lv_if_eq (tgt := 34) hx₀ hb dX11_type_28 (by decide) (fun _ => ?_) (fun c9 => absurd (by decide +kernel) c9)
        refine lv_aload_n hx₀ hb dX11_type_34 rfl (lv_at hl 0 rfl) ?_
        refine lv_iload_n hx₀ hb dX11_type_35 rfl (lv_at hl 3 rfl) ?_
        have hPc := hP.sub (ws' := [(aPa, .inr (7, [.ref vPa, .int 0, .int (-1), .int 0])), (vPa, .inl (cI, 39, .inl (fun _ => 0)))]) [5, 6] rfl
        have hDc := hD.sub (ws' := [(aPa, .inr (7, [.ref vPa, .int 0, .int (-1), .int 0])), (vPa, .inl (cI, 39, .inl (fun _ => 0)))]) [5, 6] (by decide) rfl
        have hFc := va_free (wc := [(aPa, .inr (7, [.ref vPa, .int 0, .int (-1), .int 0])), (vPa, .inl (cI, 39, .inl (fun _ => 0)))]) hD hS hA [5, 6] rfl
        refine va_callv (va_runU (As := [.int b]) (rest := []) ⟨hx₀, hb, hml, hown, hts⟩ (c_append0_X7 l dC dI cI cJ cQ H.size aPa b vPa (-1) 0 (fun _ => 0)) (va_cwU 1 hts (kGU wd_154 wd_150 wd_151 wd_196 wd_153 wd_57) rfl rfl rfl rfl (by decide +kernel) ⟨Nat.le_of_ble_eq_true rfl, Nat.le_of_ble_eq_true rfl⟩) (k_preV (ci := 7) (q0 := 0) hK hPc hDc hN rfl rfl) rfl rfl hl.1 rfl (lv_room (Nat.le_of_ble_eq_true rfl)) dX11_type_36 ⟨by decide +kernel, by decide +kernel⟩) hS (fun q _ h => hFc q h) hFc (fun u₀ t₀ H1 locs ht hvm hw hB hz1 hk1 hS => ?_)
        obtain ⟨qn_16, qn_17⟩ := u₀
        obtain ⟨hP1, hK1, hD1⟩ := hB
        rw [ht] at hP1
        obtain ⟨hP, hD⟩ := va_join (wr := [(aLa, .inr (4, [.ref vLa, .int 0, .int (-1), .int 0])), (vLa, .inl (cI, 24, .inl (fun _ => 0))), (aGe, .inr (2, [.ref vGe, .int 0, .int (-1), .int 0])), (vGe, .inl (cI, 23, .inl (fun _ => 0))), (hx, .inr (10, [.ref aLa, .ref aPa, .ref aGe, .ref aFl, .ref aTr, .ref aBe, .ref aLu, .ref aLo, .ref vSf, .ref vSm, .ref vCo, .ref vSh, .int 0, .int 0, .int 0]))]) (w1 := [(aPa, .inr (7, [.ref vPa, .int 1, .int qn_16, .int qn_17]))]) hP hD [5, 6] [0, 1, 2, 3, 4] rfl rfl (by decide) (by decide) hk1 hFc hP1 hD1
        generalize H1 = H at hP hS ⊢
        have hP : va_P (dC, dI) vwCl [(aLa, .inr (4, [.ref vLa, .int 0, .int (-1), .int 0])), (vLa, .inl (cI, 24, .inl (fun _ => 0))), (aGe, .inr (2, [.ref vGe, .int 0, .int (-1), .int 0])), (vGe, .inl (cI, 23, .inl (fun _ => 0))), (hx, .inr (10, [.ref aLa, .ref aPa, .ref aGe, .ref aFl, .ref aTr, .ref aBe, .ref aLu, .ref aLo, .ref vSf, .ref vSm, .ref vCo, .ref vSh, .int 0, .int 0, .int 0])), (aPa, .inr (7, [.ref vPa, .int 1, .int qn_16, .int qn_17]))] H := hP
        have hD : va_D A [(aLa, .inr (4, [.ref vLa, .int 0, .int (-1), .int 0])), (vLa, .inl (cI, 24, .inl (fun _ => 0))), (aGe, .inr (2, [.ref vGe, .int 0, .int (-1), .int 0])), (vGe, .inl (cI, 23, .inl (fun _ => 0))), (hx, .inr (10, [.ref aLa, .ref aPa, .ref aGe, .ref aFl, .ref aTr, .ref aBe, .ref aLu, .ref aLo, .ref vSf, .ref vSm, .ref vCo, .ref vSh, .int 0, .int 0, .int 0])), (aPa, .inr (7, [.ref vPa, .int 1, .int qn_16, .int qn_17]))] := hD
        refine lv_aload_n hx₀ hb dX11_type_39 rfl (lv_at hl 0 rfl) ?_
        refine va_get (D := (dC, dI)) (ci := 7) (v := .int 1) (C := RX7) (T := TX7) (N := 4) hx₀ hb hts inlX7 hown hK hP 5 rfl rfl 1 (by decide) (hts (.fieldLink RX11 98 "BittenStick$Text" "length" "I") wd_137) (fun _ h9 => h9) rfl dX11_type_40 ?_
        exact W.iret (v := 1) hx₀ hb hr (fun t₀ ht hW => ⟨⟨1, (), rfl, (lf_x_type_7 t b c_2 c_10 c_11 c_12), trivial⟩, hS.F ht⟩) hS.2.2 dX11_type_43
      · refine lv_bipush (v := (-2)) hx₀ hb dX11_type_21 (by decide +kernel) ?_
        exact W.iret (v := (-2)) hx₀ hb hr (fun t₀ ht hW => ⟨⟨(-2), (), rfl, (lf_x_type_8 t b c_2 c_10 c_11 c_12), trivial⟩, hS.F ht⟩) hS.2.2 dX11_type_23
  rw [if_neg c_10] at hw
  by_cases c_18 : t = 2
  · rw [if_pos c_18] at hw
    subst hw
    refine W.eq (g2 := F0 m₀ 5 ls [.ref aGe]) rfl ?_
    refine lv_astore_n (lv' := [(3, .ref aGe), (0, .ref hx), (1, .int t), (2, .int b)]) hx₀ hb dX11_type_5 rfl hl (by decide) rfl (fun ls hl => ?_)
    refine lv_aload_n hx₀ hb dX11_type_6 rfl (lv_at hl 0 rfl) ?_
    refine lv_ifnull hx₀ hb dX11_type_7 ?_
    refine lv_iload_n hx₀ hb dX11_type_10 rfl (lv_at hl 3 rfl) ?_
    refine lv_if_lt (tgt := 21) hx₀ hb dX11_type_11 (by decide) (fun c_19 => ?_) (fun c_19 => ?_)
    · refine lv_bipush (v := (-2)) hx₀ hb dX11_type_21 (by decide +kernel) ?_
      exact W.iret (v := (-2)) hx₀ hb hr (fun t₀ ht hW => ⟨⟨(-2), (), rfl, (lf_x_type_9 t b c_2 c_10 c_18 c_19), trivial⟩, hS.F ht⟩) hS.2.2 dX11_type_23
    · refine lv_iload_n hx₀ hb dX11_type_14 rfl (lv_at hl 3 rfl) ?_
      refine lv_sipush (v := 255) hx₀ hb dX11_type_15 (by decide +kernel) ?_
      refine lv_icmp_le (tgt := 24) hx₀ hb dX11_type_18 (by decide) (fun c_20 => ?_) (fun c_20 => ?_)
      · refine lv_aload_n hx₀ hb dX11_type_24 rfl (lv_at hl 0 rfl) ?_
        have hPc := hP.sub (ws' := [(aGe, .inr (2, [.ref vGe, .int 0, .int (-1), .int 0])), (vGe, .inl (cI, 23, .inl (fun _ => 0)))]) [4, 5] rfl
        have hDc := hD.sub (ws' := [(aGe, .inr (2, [.ref vGe, .int 0, .int (-1), .int 0])), (vGe, .inl (cI, 23, .inl (fun _ => 0)))]) [4, 5] (by decide) rfl
        have hFc := va_free (wc := [(aGe, .inr (2, [.ref vGe, .int 0, .int (-1), .int 0])), (vGe, .inl (cI, 23, .inl (fun _ => 0)))]) hD hS hA [4, 5] rfl
        refine va_calli (va_runU (As := []) (rest := []) ⟨hx₀, hb, hml, hown, hts⟩ (c_isFull_X2 l dC dI cI cJ cQ H.size aGe vGe 0 (-1) 0 (fun _ => 0)) (va_cwU 0 hts (kGU wd_146 wd_142 wd_143 wd_144 wd_145 wd_57) rfl rfl rfl rfl (by decide +kernel) ⟨Nat.le_of_ble_eq_true rfl, Nat.le_of_ble_eq_true rfl⟩) (k_preV (ci := 2) (q0 := 0) hK hPc hDc hN rfl rfl) rfl rfl hl.1 rfl (lv_room (Nat.le_of_ble_eq_true rfl)) dX11_type_25 ⟨by decide +kernel, by decide +kernel⟩) hS (fun q _ h => hFc q h) hFc (fun r_21 u₀ t₀ H1 locs ht hvm hw hB hz1 hk1 hS => ?_)
        obtain ⟨hP1, hK1, hD1⟩ := hB
        rw [ht] at hP1
        obtain ⟨hP, hD⟩ := va_join (wr := [(aLa, .inr (4, [.ref vLa, .int 0, .int (-1), .int 0])), (vLa, .inl (cI, 24, .inl (fun _ => 0))), (aPa, .inr (7, [.ref vPa, .int 0, .int (-1), .int 0])), (vPa, .inl (cI, 39, .inl (fun _ => 0))), (hx, .inr (10, [.ref aLa, .ref aPa, .ref aGe, .ref aFl, .ref aTr, .ref aBe, .ref aLu, .ref aLo, .ref vSf, .ref vSm, .ref vCo, .ref vSh, .int 0, .int 0, .int 0]))]) (w1 := [(aGe, .inr (2, [.ref vGe, .int 0, .int (-1), .int 0])), (vGe, .inl (cI, 23, .inl (fun _ => 0)))]) hP hD [4, 5] [0, 1, 2, 3, 6] rfl rfl (by decide) (by decide) hk1 hFc hP1 hD1
        generalize H1 = H at hP hS ⊢
        have hP : va_P (dC, dI) vwCl [(aLa, .inr (4, [.ref vLa, .int 0, .int (-1), .int 0])), (vLa, .inl (cI, 24, .inl (fun _ => 0))), (aPa, .inr (7, [.ref vPa, .int 0, .int (-1), .int 0])), (vPa, .inl (cI, 39, .inl (fun _ => 0))), (hx, .inr (10, [.ref aLa, .ref aPa, .ref aGe, .ref aFl, .ref aTr, .ref aBe, .ref aLu, .ref aLo, .ref vSf, .ref vSm, .ref vCo, .ref vSh, .int 0, .int 0, .int 0])), (aGe, .inr (2, [.ref vGe, .int 0, .int (-1), .int 0])), (vGe, .inl (cI, 23, .inl (fun _ => 0)))] H := hP
        have hD : va_D A [(aLa, .inr (4, [.ref vLa, .int 0, .int (-1), .int 0])), (vLa, .inl (cI, 24, .inl (fun _ => 0))), (aPa, .inr (7, [.ref vPa, .int 0, .int (-1), .int 0])), (vPa, .inl (cI, 39, .inl (fun _ => 0))), (hx, .inr (10, [.ref aLa, .ref aPa, .ref aGe, .ref aFl, .ref aTr, .ref aBe, .ref aLu, .ref aLo, .ref vSf, .ref vSm, .ref vCo, .ref vSh, .int 0, .int 0, .int 0])), (aGe, .inr (2, [.ref vGe, .int 0, .int (-1), .int 0])), (vGe, .inl (cI, 23, .inl (fun _ => 0)))] := hD
        try dsimp only at hw
        rw [if_neg (fun c9 => lf_x_type_10 t b c_2 c_10 c_18 c_19 c_20 c9)] at hw
        refine k_topi (v := 0) hw ?_
        refine lv_if_eq (tgt := 34) hx₀ hb dX11_type_28 (by decide) (fun _ => ?_) (fun c9 => absurd (by decide +kernel) c9)
        refine lv_aload_n hx₀ hb dX11_type_34 rfl (lv_at hl 0 rfl) ?_
        refine lv_iload_n hx₀ hb dX11_type_35 rfl (lv_at hl 3 rfl) ?_
        have hPc := hP.sub (ws' := [(aGe, .inr (2, [.ref vGe, .int 0, .int (-1), .int 0])), (vGe, .inl (cI, 23, .inl (fun _ => 0)))]) [5, 6] rfl
        have hDc := hD.sub (ws' := [(aGe, .inr (2, [.ref vGe, .int 0, .int (-1), .int 0])), (vGe, .inl (cI, 23, .inl (fun _ => 0)))]) [5, 6] (by decide) rfl
        have hFc := va_free (wc := [(aGe, .inr (2, [.ref vGe, .int 0, .int (-1), .int 0])), (vGe, .inl (cI, 23, .inl (fun _ => 0)))]) hD hS hA [5, 6] rfl
        refine va_callv (va_runU (As := [.int b]) (rest := []) ⟨hx₀, hb, hml, hown, hts⟩ (c_append0_X2 l dC dI cI cJ cQ H.size aGe b vGe (-1) 0 (fun _ => 0)) (va_cwU 1 hts (kGU wd_154 wd_150 wd_151 wd_152 wd_153 wd_57) rfl rfl rfl rfl (by decide +kernel) ⟨Nat.le_of_ble_eq_true rfl, Nat.le_of_ble_eq_true rfl⟩) (k_preV (ci := 2) (q0 := 0) hK hPc hDc hN rfl rfl) rfl rfl hl.1 rfl (lv_room (Nat.le_of_ble_eq_true rfl)) dX11_type_36 ⟨by decide +kernel, by decide +kernel⟩) hS (fun q _ h => hFc q h) hFc (fun u₀ t₀ H1 locs ht hvm hw hB hz1 hk1 hS => ?_)
        obtain ⟨qn_24, qn_25⟩ := u₀
        obtain ⟨hP1, hK1, hD1⟩ := hB
        rw [ht] at hP1
        obtain ⟨hP, hD⟩ := va_join (wr := [(aLa, .inr (4, [.ref vLa, .int 0, .int (-1), .int 0])), (vLa, .inl (cI, 24, .inl (fun _ => 0))), (aPa, .inr (7, [.ref vPa, .int 0, .int (-1), .int 0])), (vPa, .inl (cI, 39, .inl (fun _ => 0))), (hx, .inr (10, [.ref aLa, .ref aPa, .ref aGe, .ref aFl, .ref aTr, .ref aBe, .ref aLu, .ref aLo, .ref vSf, .ref vSm, .ref vCo, .ref vSh, .int 0, .int 0, .int 0]))]) (w1 := [(aGe, .inr (2, [.ref vGe, .int 1, .int qn_24, .int qn_25]))]) hP hD [5, 6] [0, 1, 2, 3, 4] rfl rfl (by decide) (by decide) hk1 hFc hP1 hD1
        generalize H1 = H at hP hS ⊢
        have hP : va_P (dC, dI) vwCl [(aLa, .inr (4, [.ref vLa, .int 0, .int (-1), .int 0])), (vLa, .inl (cI, 24, .inl (fun _ => 0))), (aPa, .inr (7, [.ref vPa, .int 0, .int (-1), .int 0])), (vPa, .inl (cI, 39, .inl (fun _ => 0))), (hx, .inr (10, [.ref aLa, .ref aPa, .ref aGe, .ref aFl, .ref aTr, .ref aBe, .ref aLu, .ref aLo, .ref vSf, .ref vSm, .ref vCo, .ref vSh, .int 0, .int 0, .int 0])), (aGe, .inr (2, [.ref vGe, .int 1, .int qn_24, .int qn_25]))] H := hP
        have hD : va_D A [(aLa, .inr (4, [.ref vLa, .int 0, .int (-1), .int 0])), (vLa, .inl (cI, 24, .inl (fun _ => 0))), (aPa, .inr (7, [.ref vPa, .int 0, .int (-1), .int 0])), (vPa, .inl (cI, 39, .inl (fun _ => 0))), (hx, .inr (10, [.ref aLa, .ref aPa, .ref aGe, .ref aFl, .ref aTr, .ref aBe, .ref aLu, .ref aLo, .ref vSf, .ref vSm, .ref vCo, .ref vSh, .int 0, .int 0, .int 0])), (aGe, .inr (2, [.ref vGe, .int 1, .int qn_24, .int qn_25]))] := hD
        refine lv_aload_n hx₀ hb dX11_type_39 rfl (lv_at hl 0 rfl) ?_
        refine va_get (D := (dC, dI)) (ci := 2) (v := .int 1) (C := RX2) (T := TX2) (N := 4) hx₀ hb hts inlX2 hown hK hP 5 rfl rfl 1 (by decide) (hts (.fieldLink RX11 98 "BittenStick$Text" "length" "I") wd_137) (fun _ h9 => h9) rfl dX11_type_40 ?_
        exact W.iret (v := 1) hx₀ hb hr (fun t₀ ht hW => ⟨⟨1, (), rfl, (lf_x_type_11 t b c_2 c_10 c_18 c_19 c_20), trivial⟩, hS.F ht⟩) hS.2.2 dX11_type_43
      · refine lv_bipush (v := (-2)) hx₀ hb dX11_type_21 (by decide +kernel) ?_
        exact W.iret (v := (-2)) hx₀ hb hr (fun t₀ ht hW => ⟨⟨(-2), (), rfl, (lf_x_type_12 t b c_2 c_10 c_18 c_19 c_20), trivial⟩, hS.F ht⟩) hS.2.2 dX11_type_23
  rw [if_neg c_18] at hw
  subst hw
  refine W.eq (g2 := F0 m₀ 5 ls [.null]) rfl ?_
  refine lv_astore_nN (lv' := [(3, .null), (0, .ref hx), (1, .int t), (2, .int b)]) hx₀ hb dX11_type_5 rfl hl (by decide) rfl (fun ls hl => ?_)
  refine lv_aload_nN hx₀ hb dX11_type_6 rfl (lv_at hl 0 rfl) ?_
  refine lv_ifnullN (tgt := 21) hx₀ hb dX11_type_7 (by decide) ?_
  refine lv_bipush (v := (-2)) hx₀ hb dX11_type_21 (by decide +kernel) ?_
  exact W.iret (v := (-2)) hx₀ hb hr (fun t₀ ht hW => ⟨⟨(-2), (), rfl, (lf_x_type_13 t b c_2 c_10 c_18), trivial⟩, hS.F ht⟩) hS.2.2 dX11_type_23
theorem lf_x_wipe_1 (t : Int32) (c_2 : t = 0) : (0 : Int32) = if 0 ≤ t ∧ t ≤ 2 then 0 else -2 := by
  repeat first | rfl | rw [if_pos (by (first | omega | (simp only [Int64.le_iff_toInt_le, Int64.lt_iff_toInt_lt, Int32.le_iff_toInt_le, Int32.lt_iff_toInt_lt, ← Int32.toInt_inj, ← Int64.toInt_inj, Int32.toInt_toInt64, (show (-2 : Int32).toInt = -2 from by decide), (show (-2 : Int64).toInt = -2 from by decide), (show (0 : Int32).toInt = 0 from by decide), (show (0 : Int64).toInt = 0 from by decide), (show (2 : Int32).toInt = 2 from by decide), (show (2 : Int64).toInt = 2 from by decide)] at *; omega)))] | rw [if_neg (by (first | omega | (simp only [Int64.le_iff_toInt_le, Int64.lt_iff_toInt_lt, Int32.le_iff_toInt_le, Int32.lt_iff_toInt_lt, ← Int32.toInt_inj, ← Int64.toInt_inj, Int32.toInt_toInt64, (show (-2 : Int32).toInt = -2 from by decide), (show (-2 : Int64).toInt = -2 from by decide), (show (0 : Int32).toInt = 0 from by decide), (show (0 : Int64).toInt = 0 from by decide), (show (2 : Int32).toInt = 2 from by decide), (show (2 : Int64).toInt = 2 from by decide)] at *; omega)))]
theorem lf_x_wipe_2 (t : Int32) (c_2 : ¬ (t = 0)) (c_4 : t = 1) : (0 : Int32) = if 0 ≤ t ∧ t ≤ 2 then 0 else -2 := by
  repeat first | rfl | rw [if_pos (by (first | omega | (simp only [Int64.le_iff_toInt_le, Int64.lt_iff_toInt_lt, Int32.le_iff_toInt_le, Int32.lt_iff_toInt_lt, ← Int32.toInt_inj, ← Int64.toInt_inj, Int32.toInt_toInt64, (show (-2 : Int32).toInt = -2 from by decide), (show (-2 : Int64).toInt = -2 from by decide), (show (0 : Int32).toInt = 0 from by decide), (show (0 : Int64).toInt = 0 from by decide), (show (1 : Int32).toInt = 1 from by decide), (show (1 : Int64).toInt = 1 from by decide), (show (2 : Int32).toInt = 2 from by decide), (show (2 : Int64).toInt = 2 from by decide)] at *; omega)))] | rw [if_neg (by (first | omega | (simp only [Int64.le_iff_toInt_le, Int64.lt_iff_toInt_lt, Int32.le_iff_toInt_le, Int32.lt_iff_toInt_lt, ← Int32.toInt_inj, ← Int64.toInt_inj, Int32.toInt_toInt64, (show (-2 : Int32).toInt = -2 from by decide), (show (-2 : Int64).toInt = -2 from by decide), (show (0 : Int32).toInt = 0 from by decide), (show (0 : Int64).toInt = 0 from by decide), (show (1 : Int32).toInt = 1 from by decide), (show (1 : Int64).toInt = 1 from by decide), (show (2 : Int32).toInt = 2 from by decide), (show (2 : Int64).toInt = 2 from by decide)] at *; omega)))]
theorem lf_x_wipe_3 (t : Int32) (c_2 : ¬ (t = 0)) (c_4 : ¬ (t = 1)) (c_6 : t = 2) : (0 : Int32) = if 0 ≤ t ∧ t ≤ 2 then 0 else -2 := by
  repeat first | rfl | rw [if_pos (by (first | omega | (simp only [Int64.le_iff_toInt_le, Int64.lt_iff_toInt_lt, Int32.le_iff_toInt_le, Int32.lt_iff_toInt_lt, ← Int32.toInt_inj, ← Int64.toInt_inj, Int32.toInt_toInt64, (show (-2 : Int32).toInt = -2 from by decide), (show (-2 : Int64).toInt = -2 from by decide), (show (0 : Int32).toInt = 0 from by decide), (show (0 : Int64).toInt = 0 from by decide), (show (1 : Int32).toInt = 1 from by decide), (show (1 : Int64).toInt = 1 from by decide), (show (2 : Int32).toInt = 2 from by decide), (show (2 : Int64).toInt = 2 from by decide)] at *; omega)))] | rw [if_neg (by (first | omega | (simp only [Int64.le_iff_toInt_le, Int64.lt_iff_toInt_lt, Int32.le_iff_toInt_le, Int32.lt_iff_toInt_lt, ← Int32.toInt_inj, ← Int64.toInt_inj, Int32.toInt_toInt64, (show (-2 : Int32).toInt = -2 from by decide), (show (-2 : Int64).toInt = -2 from by decide), (show (0 : Int32).toInt = 0 from by decide), (show (0 : Int64).toInt = 0 from by decide), (show (1 : Int32).toInt = 1 from by decide), (show (1 : Int64).toInt = 1 from by decide), (show (2 : Int32).toInt = 2 from by decide), (show (2 : Int64).toInt = 2 from by decide)] at *; omega)))]
theorem lf_x_wipe_4 (t : Int32) (c_2 : ¬ (t = 0)) (c_4 : ¬ (t = 1)) (c_6 : ¬ (t = 2)) : ((-2) : Int32) = if 0 ≤ t ∧ t ≤ 2 then 0 else -2 := by
  repeat first | rfl | rw [if_pos (by (first | omega | (simp only [Int64.le_iff_toInt_le, Int64.lt_iff_toInt_lt, Int32.le_iff_toInt_le, Int32.lt_iff_toInt_lt, ← Int32.toInt_inj, ← Int64.toInt_inj, Int32.toInt_toInt64, (show (-2 : Int32).toInt = -2 from by decide), (show (-2 : Int64).toInt = -2 from by decide), (show (0 : Int32).toInt = 0 from by decide), (show (0 : Int64).toInt = 0 from by decide), (show (1 : Int32).toInt = 1 from by decide), (show (1 : Int64).toInt = 1 from by decide), (show (2 : Int32).toInt = 2 from by decide), (show (2 : Int64).toInt = 2 from by decide)] at *; omega)))] | rw [if_neg (by (first | omega | (simp only [Int64.le_iff_toInt_le, Int64.lt_iff_toInt_lt, Int32.le_iff_toInt_le, Int32.lt_iff_toInt_lt, ← Int32.toInt_inj, ← Int64.toInt_inj, Int32.toInt_toInt64, (show (-2 : Int32).toInt = -2 from by decide), (show (-2 : Int64).toInt = -2 from by decide), (show (0 : Int32).toInt = 0 from by decide), (show (0 : Int64).toInt = 0 from by decide), (show (1 : Int32).toInt = 1 from by decide), (show (1 : Int64).toInt = 1 from by decide), (show (2 : Int32).toInt = 2 from by decide), (show (2 : Int64).toInt = 2 from by decide)] at *; omega)))]
set_option maxHeartbeats 4000000 in
set_option maxRecDepth 100000 in
theorem x_wipe (l : Launch) (dC : Nat → ClassId) (dI : Nat → Nat → Nat) (cI cJ cQ : ClassId) (sz : Nat) (hx : Nat) (t : Int32) (aLa : Nat) (aPa : Nat) (aGe : Nat) (aFl : Nat) (aTr : Nat) (aBe : Nat) (aLu : Nat) (aLo : Nat) (vSf : Nat) (vSm : Nat) (vCo : Nat) (vSh : Nat) (vLa : Nat) (vPa : Nat) (vGe : Nat) : Met l yX11_wipe (kW yX11_wipe cX11_wipe 4 (some .int)) { frames := 3, cells := 0, slots := 0, locals := 63 } (kPre dC dI cI cJ cQ sz [.ref hx, .int t] [(hx, .inr (10, [.ref aLa, .ref aPa, .ref aGe, .ref aFl, .ref aTr, .ref aBe, .ref aLu, .ref aLo, .ref vSf, .ref vSm, .ref vCo, .ref vSh, .int 0, .int 0, .int 0])), (aLa, .inr (4, [.ref vLa, .int 0, .int (-1), .int 0])), (aPa, .inr (7, [.ref vPa, .int 0, .int (-1), .int 0])), (aGe, .inr (2, [.ref vGe, .int 0, .int (-1), .int 0]))]) (va_Qi (fun (r : Int32) (_ : Unit) => r = if 0 ≤ t ∧ t ≤ 2 then 0 else -2) (fun _ _ => True) (va_A [(hx, .inr (10, [.ref aLa, .ref aPa, .ref aGe, .ref aFl, .ref aTr, .ref aBe, .ref aLu, .ref aLo, .ref vSf, .ref vSm, .ref vCo, .ref vSh, .int 0, .int 0, .int 0])), (aLa, .inr (4, [.ref vLa, .int 0, .int (-1), .int 0])), (aPa, .inr (7, [.ref vPa, .int 0, .int (-1), .int 0])), (aGe, .inr (2, [.ref vGe, .int 0, .int (-1), .int 0]))] sz)) 0 0 (va_A [(hx, .inr (10, [.ref aLa, .ref aPa, .ref aGe, .ref aFl, .ref aTr, .ref aBe, .ref aLu, .ref aLo, .ref vSf, .ref vSm, .ref vCo, .ref vSh, .int 0, .int 0, .int 0])), (aLa, .inr (4, [.ref vLa, .int 0, .int (-1), .int 0])), (aPa, .inr (7, [.ref vPa, .int 0, .int (-1), .int 0])), (aGe, .inr (2, [.ref vGe, .int 0, .int (-1), .int 0]))] sz) := by
  refine Met.ofW (cc := cX11_wipe) (maxL := 4) (ret := (some .int)) (by decide) rfl ?_
  intro p₀ e₀ s₀ m₀ args below meth c₀ s₁ B hml hv₀
  obtain ⟨rfl, hsz, hP, hK, hD0, hN⟩ := hv₀
  have hx₀ := B.exec
  have hb := B.bytes
  have hr := B.returns
  have hts := atoms_spec (ws := (kW yX11_wipe cX11_wipe 4 (some .int))) B.pre
  have hts := fun w h => hts w (List.mem_cons_of_mem _ h)
  have hown : s₀.vm.findClass RX11 = some m₀.cls := findClass_of_methodNamed B.named
  have hlocks := B.notSynchronized
  subst hsz
  have hD := hD0.self (sz := s₀.heap.size)
  generalize hAe : va_A [(hx, .inr (10, [.ref aLa, .ref aPa, .ref aGe, .ref aFl, .ref aTr, .ref aBe, .ref aLu, .ref aLo, .ref vSf, .ref vSm, .ref vCo, .ref vSh, .int 0, .int 0, .int 0])), (aLa, .inr (4, [.ref vLa, .int 0, .int (-1), .int 0])), (aPa, .inr (7, [.ref vPa, .int 0, .int (-1), .int 0])), (aGe, .inr (2, [.ref vGe, .int 0, .int (-1), .int 0]))] s₀.heap.size = A at hD ⊢
  have hA : ∀ q : Nat, s₀.heap.size ≤ q → A q := fun q h => by rw [← hAe]; exact Or.inr h
  have hS : va_S A s₀.heap s₀.heap [] := va_S.rf
  have hP : va_P (dC, dI) vwCl [(hx, .inr (10, [.ref aLa, .ref aPa, .ref aGe, .ref aFl, .ref aTr, .ref aBe, .ref aLu, .ref aLo, .ref vSf, .ref vSm, .ref vCo, .ref vSh, .int 0, .int 0, .int 0])), (aLa, .inr (4, [.ref vLa, .int 0, .int (-1), .int 0])), (aPa, .inr (7, [.ref vPa, .int 0, .int (-1), .int 0])), (aGe, .inr (2, [.ref vGe, .int 0, .int (-1), .int 0]))] s₀.heap := hP
  have hl := lv_entry ([.ref hx, .int t]) (n := 4) (Nat.le_of_ble_eq_true rfl)
  rw [lg_entry_eq]
  generalize (lg_sl ([.ref hx, .int t]) ++ List.replicate (4 - (lg_sl ([.ref hx, .int t])).length) Slot.unset).toArray = ls at hl ⊢
  have hl : lv_has ls 4 [(0, .ref hx), (1, .int t)] := hl
  obtain ⟨H, hH⟩ : ∃ z : Heap, z = s₀.heap := ⟨_, rfl⟩
  rw [← hH] at hP
  have hS : va_S A s₀.heap H [] := by rw [hH]; exact hS
  refine k_heap hH ?_
  have hD : va_D A [(hx, .inr (10, [.ref aLa, .ref aPa, .ref aGe, .ref aFl, .ref aTr, .ref aBe, .ref aLu, .ref aLo, .ref vSf, .ref vSm, .ref vCo, .ref vSh, .int 0, .int 0, .int 0])), (aLa, .inr (4, [.ref vLa, .int 0, .int (-1), .int 0])), (aPa, .inr (7, [.ref vPa, .int 0, .int (-1), .int 0])), (aGe, .inr (2, [.ref vGe, .int 0, .int (-1), .int 0]))] := hD
  obtain ⟨locs, hlo⟩ : ∃ z : List Loc, z = [] := ⟨_, rfl⟩
  rw [← hlo] at hS ⊢
  clear hlo hH hAe hD0
  refine lv_aload_n hx₀ hb dX11_wipe_0 rfl (lv_at hl 0 rfl) ?_
  refine lv_iload_n hx₀ hb dX11_wipe_1 rfl (lv_at hl 1 rfl) ?_
  have hPc := hP.sub (ws' := [(hx, .inr (10, [.ref aLa, .ref aPa, .ref aGe, .ref aFl, .ref aTr, .ref aBe, .ref aLu, .ref aLo, .ref vSf, .ref vSm, .ref vCo, .ref vSh, .int 0, .int 0, .int 0]))]) [0] rfl
  have hDc := hD.sub (ws' := [(hx, .inr (10, [.ref aLa, .ref aPa, .ref aGe, .ref aFl, .ref aTr, .ref aBe, .ref aLu, .ref aLo, .ref vSf, .ref vSm, .ref vCo, .ref vSh, .int 0, .int 0, .int 0]))]) [0] (by decide) rfl
  have hFc := va_free (wc := [(hx, .inr (10, [.ref aLa, .ref aPa, .ref aGe, .ref aFl, .ref aTr, .ref aBe, .ref aLu, .ref aLo, .ref vSf, .ref vSm, .ref vCo, .ref vSh, .int 0, .int 0, .int 0]))]) hD hS hA [0] rfl
  refine va_callq (va_runV (As := [.int t]) (rest := []) ⟨hx₀, hb, hml, hown, hts⟩ (c_textOf l dC dI cI cJ cQ H.size hx t aLa aPa aGe aFl aTr aBe aLu aLo vSf vSm vCo vSh) (cwV 1 hts (kGV wd_141 wd_138 wd_139 wd_140 wd_2) rfl rfl rfl (by decide +kernel) ⟨Nat.le_of_ble_eq_true rfl, Nat.le_of_ble_eq_true rfl⟩) (k_preV (ci := 10) (q0 := 0) hK hPc hDc hN rfl rfl) rfl rfl hl.1 rfl (lv_room (Nat.le_of_ble_eq_true rfl)) dX11_wipe_2 ⟨by decide +kernel, by decide +kernel⟩) hS (fun q _ h => hFc q h) hFc (fun r_1 u₀ t₀ H1 locs ht hvm hw hB hz1 hk1 hS => ?_)
  obtain ⟨hP1, hK1, hD1⟩ := hB
  rw [ht] at hP1
  obtain ⟨hP, hD⟩ := va_join (wr := [(aLa, .inr (4, [.ref vLa, .int 0, .int (-1), .int 0])), (aPa, .inr (7, [.ref vPa, .int 0, .int (-1), .int 0])), (aGe, .inr (2, [.ref vGe, .int 0, .int (-1), .int 0]))]) (w1 := [(hx, .inr (10, [.ref aLa, .ref aPa, .ref aGe, .ref aFl, .ref aTr, .ref aBe, .ref aLu, .ref aLo, .ref vSf, .ref vSm, .ref vCo, .ref vSh, .int 0, .int 0, .int 0]))]) hP hD [0] [1, 2, 3] rfl rfl (by decide) (by decide) hk1 hFc hP1 hD1
  generalize H1 = H at hP hS ⊢
  have hP : va_P (dC, dI) vwCl [(aLa, .inr (4, [.ref vLa, .int 0, .int (-1), .int 0])), (aPa, .inr (7, [.ref vPa, .int 0, .int (-1), .int 0])), (aGe, .inr (2, [.ref vGe, .int 0, .int (-1), .int 0])), (hx, .inr (10, [.ref aLa, .ref aPa, .ref aGe, .ref aFl, .ref aTr, .ref aBe, .ref aLu, .ref aLo, .ref vSf, .ref vSm, .ref vCo, .ref vSh, .int 0, .int 0, .int 0]))] H := hP
  have hD : va_D A [(aLa, .inr (4, [.ref vLa, .int 0, .int (-1), .int 0])), (aPa, .inr (7, [.ref vPa, .int 0, .int (-1), .int 0])), (aGe, .inr (2, [.ref vGe, .int 0, .int (-1), .int 0])), (hx, .inr (10, [.ref aLa, .ref aPa, .ref aGe, .ref aFl, .ref aTr, .ref aBe, .ref aLu, .ref aLo, .ref vSf, .ref vSm, .ref vCo, .ref vSh, .int 0, .int 0, .int 0]))] := hD
  try dsimp only at hw
  by_cases c_2 : t = 0
  · rw [if_pos c_2] at hw
    subst hw
    refine W.eq (g2 := F0 m₀ 5 ls [.ref aLa]) rfl ?_
    refine lv_astore_n (lv' := [(2, .ref aLa), (0, .ref hx), (1, .int t)]) hx₀ hb dX11_wipe_5 rfl hl (by decide) rfl (fun ls hl => ?_)
    refine lv_aload_n hx₀ hb dX11_wipe_6 rfl (lv_at hl 0 rfl) ?_
    refine lv_ifnonnull (tgt := 13) hx₀ hb dX11_wipe_7 (by decide) ?_
    refine lv_aload_n hx₀ hb dX11_wipe_13 rfl (lv_at hl 0 rfl) ?_
    refine va_get (D := (dC, dI)) (ci := 4) (v := .int 0) (C := RX4) (T := TX4) (N := 4) hx₀ hb hts inlX4 hown hK hP 0 rfl rfl 1 (by decide) (hts (.fieldLink RX11 98 "BittenStick$Text" "length" "I") wd_137) (fun _ h9 => h9) rfl dX11_wipe_14 ?_
    refine lv_istore_n (lv' := [(3, .int 0), (2, .ref aLa), (0, .ref hx), (1, .int t)]) hx₀ hb dX11_wipe_17 rfl hl (by decide) rfl (fun ls hl => ?_)
    refine lv_aload_n hx₀ hb dX11_wipe_18 rfl (lv_at hl 1 rfl) ?_
    refine lv_iconst (v := 0) hx₀ hb dX11_wipe_19 (by decide +kernel) ?_
    have hPc := hP.sub (ws' := [(aLa, .inr (4, [.ref vLa, .int 0, .int (-1), .int 0]))]) [0] rfl
    have hDc := hD.sub (ws' := [(aLa, .inr (4, [.ref vLa, .int 0, .int (-1), .int 0]))]) [0] (by decide) rfl
    have hFc := va_free (wc := [(aLa, .inr (4, [.ref vLa, .int 0, .int (-1), .int 0]))]) hD hS hA [0] rfl
    refine va_callv (va_runU (As := [.int 0]) (rest := []) ⟨hx₀, hb, hml, hown, hts⟩ (c_shorten0_X4 l dC dI cI cJ cQ H.size aLa vLa (-1) 0) (va_cwU 1 hts (kGU wd_217 wd_213 wd_214 wd_221 wd_216 wd_57) rfl rfl rfl rfl (by decide +kernel) ⟨Nat.le_of_ble_eq_true rfl, Nat.le_of_ble_eq_true rfl⟩) (k_preV (ci := 4) (q0 := 0) hK hPc hDc hN rfl rfl) rfl rfl hl.1 rfl (lv_room (Nat.le_of_ble_eq_true rfl)) dX11_wipe_20 ⟨by decide +kernel, by decide +kernel⟩) hS (fun q _ h => hFc q h) hFc (fun u₀ t₀ H1 locs ht hvm hw hB hz1 hk1 hS => ?_)
    obtain ⟨hP1, hK1, hD1⟩ := hB
    rw [ht] at hP1
    obtain ⟨hP, hD⟩ := va_join (wr := [(aPa, .inr (7, [.ref vPa, .int 0, .int (-1), .int 0])), (aGe, .inr (2, [.ref vGe, .int 0, .int (-1), .int 0])), (hx, .inr (10, [.ref aLa, .ref aPa, .ref aGe, .ref aFl, .ref aTr, .ref aBe, .ref aLu, .ref aLo, .ref vSf, .ref vSm, .ref vCo, .ref vSh, .int 0, .int 0, .int 0]))]) (w1 := [(aLa, .inr (4, [.ref vLa, .int 0, .int (-1), .int 0]))]) hP hD [0] [1, 2, 3] rfl rfl (by decide) (by decide) hk1 hFc hP1 hD1
    generalize H1 = H at hP hS ⊢
    have hP : va_P (dC, dI) vwCl [(aPa, .inr (7, [.ref vPa, .int 0, .int (-1), .int 0])), (aGe, .inr (2, [.ref vGe, .int 0, .int (-1), .int 0])), (hx, .inr (10, [.ref aLa, .ref aPa, .ref aGe, .ref aFl, .ref aTr, .ref aBe, .ref aLu, .ref aLo, .ref vSf, .ref vSm, .ref vCo, .ref vSh, .int 0, .int 0, .int 0])), (aLa, .inr (4, [.ref vLa, .int 0, .int (-1), .int 0]))] H := hP
    have hD : va_D A [(aPa, .inr (7, [.ref vPa, .int 0, .int (-1), .int 0])), (aGe, .inr (2, [.ref vGe, .int 0, .int (-1), .int 0])), (hx, .inr (10, [.ref aLa, .ref aPa, .ref aGe, .ref aFl, .ref aTr, .ref aBe, .ref aLu, .ref aLo, .ref vSf, .ref vSm, .ref vCo, .ref vSh, .int 0, .int 0, .int 0])), (aLa, .inr (4, [.ref vLa, .int 0, .int (-1), .int 0]))] := hD
    refine lv_iload_n hx₀ hb dX11_wipe_23 rfl (lv_at hl 0 rfl) ?_
    exact W.iret (v := 0) hx₀ hb hr (fun t₀ ht hW => ⟨⟨0, (), rfl, (lf_x_wipe_1 t c_2), trivial⟩, hS.F ht⟩) hS.2.2 dX11_wipe_24
  rw [if_neg c_2] at hw
  by_cases c_4 : t = 1
  · rw [if_pos c_4] at hw
    subst hw
    refine W.eq (g2 := F0 m₀ 5 ls [.ref aPa]) rfl ?_
    refine lv_astore_n (lv' := [(2, .ref aPa), (0, .ref hx), (1, .int t)]) hx₀ hb dX11_wipe_5 rfl hl (by decide) rfl (fun ls hl => ?_)
    refine lv_aload_n hx₀ hb dX11_wipe_6 rfl (lv_at hl 0 rfl) ?_
    refine lv_ifnonnull (tgt := 13) hx₀ hb dX11_wipe_7 (by decide) ?_
    refine lv_aload_n hx₀ hb dX11_wipe_13 rfl (lv_at hl 0 rfl) ?_
    refine va_get (D := (dC, dI)) (ci := 7) (v := .int 0) (C := RX7) (T := TX7) (N := 4) hx₀ hb hts inlX7 hown hK hP 1 rfl rfl 1 (by decide) (hts (.fieldLink RX11 98 "BittenStick$Text" "length" "I") wd_137) (fun _ h9 => h9) rfl dX11_wipe_14 ?_
    refine lv_istore_n (lv' := [(3, .int 0), (2, .ref aPa), (0, .ref hx), (1, .int t)]) hx₀ hb dX11_wipe_17 rfl hl (by decide) rfl (fun ls hl => ?_)
    refine lv_aload_n hx₀ hb dX11_wipe_18 rfl (lv_at hl 1 rfl) ?_
    refine lv_iconst (v := 0) hx₀ hb dX11_wipe_19 (by decide +kernel) ?_
    have hPc := hP.sub (ws' := [(aPa, .inr (7, [.ref vPa, .int 0, .int (-1), .int 0]))]) [1] rfl
    have hDc := hD.sub (ws' := [(aPa, .inr (7, [.ref vPa, .int 0, .int (-1), .int 0]))]) [1] (by decide) rfl
    have hFc := va_free (wc := [(aPa, .inr (7, [.ref vPa, .int 0, .int (-1), .int 0]))]) hD hS hA [1] rfl
    refine va_callv (va_runU (As := [.int 0]) (rest := []) ⟨hx₀, hb, hml, hown, hts⟩ (c_shorten0_X7 l dC dI cI cJ cQ H.size aPa vPa (-1) 0) (va_cwU 1 hts (kGU wd_217 wd_213 wd_214 wd_222 wd_216 wd_57) rfl rfl rfl rfl (by decide +kernel) ⟨Nat.le_of_ble_eq_true rfl, Nat.le_of_ble_eq_true rfl⟩) (k_preV (ci := 7) (q0 := 0) hK hPc hDc hN rfl rfl) rfl rfl hl.1 rfl (lv_room (Nat.le_of_ble_eq_true rfl)) dX11_wipe_20 ⟨by decide +kernel, by decide +kernel⟩) hS (fun q _ h => hFc q h) hFc (fun u₀ t₀ H1 locs ht hvm hw hB hz1 hk1 hS => ?_)
    obtain ⟨hP1, hK1, hD1⟩ := hB
    rw [ht] at hP1
    obtain ⟨hP, hD⟩ := va_join (wr := [(aLa, .inr (4, [.ref vLa, .int 0, .int (-1), .int 0])), (aGe, .inr (2, [.ref vGe, .int 0, .int (-1), .int 0])), (hx, .inr (10, [.ref aLa, .ref aPa, .ref aGe, .ref aFl, .ref aTr, .ref aBe, .ref aLu, .ref aLo, .ref vSf, .ref vSm, .ref vCo, .ref vSh, .int 0, .int 0, .int 0]))]) (w1 := [(aPa, .inr (7, [.ref vPa, .int 0, .int (-1), .int 0]))]) hP hD [1] [0, 2, 3] rfl rfl (by decide) (by decide) hk1 hFc hP1 hD1
    generalize H1 = H at hP hS ⊢
    have hP : va_P (dC, dI) vwCl [(aLa, .inr (4, [.ref vLa, .int 0, .int (-1), .int 0])), (aGe, .inr (2, [.ref vGe, .int 0, .int (-1), .int 0])), (hx, .inr (10, [.ref aLa, .ref aPa, .ref aGe, .ref aFl, .ref aTr, .ref aBe, .ref aLu, .ref aLo, .ref vSf, .ref vSm, .ref vCo, .ref vSh, .int 0, .int 0, .int 0])), (aPa, .inr (7, [.ref vPa, .int 0, .int (-1), .int 0]))] H := hP
    have hD : va_D A [(aLa, .inr (4, [.ref vLa, .int 0, .int (-1), .int 0])), (aGe, .inr (2, [.ref vGe, .int 0, .int (-1), .int 0])), (hx, .inr (10, [.ref aLa, .ref aPa, .ref aGe, .ref aFl, .ref aTr, .ref aBe, .ref aLu, .ref aLo, .ref vSf, .ref vSm, .ref vCo, .ref vSh, .int 0, .int 0, .int 0])), (aPa, .inr (7, [.ref vPa, .int 0, .int (-1), .int 0]))] := hD
    refine lv_iload_n hx₀ hb dX11_wipe_23 rfl (lv_at hl 0 rfl) ?_
    exact W.iret (v := 0) hx₀ hb hr (fun t₀ ht hW => ⟨⟨0, (), rfl, (lf_x_wipe_2 t c_2 c_4), trivial⟩, hS.F ht⟩) hS.2.2 dX11_wipe_24
  rw [if_neg c_4] at hw
  by_cases c_6 : t = 2
  · rw [if_pos c_6] at hw
    subst hw
    refine W.eq (g2 := F0 m₀ 5 ls [.ref aGe]) rfl ?_
    refine lv_astore_n (lv' := [(2, .ref aGe), (0, .ref hx), (1, .int t)]) hx₀ hb dX11_wipe_5 rfl hl (by decide) rfl (fun ls hl => ?_)
    refine lv_aload_n hx₀ hb dX11_wipe_6 rfl (lv_at hl 0 rfl) ?_
    refine lv_ifnonnull (tgt := 13) hx₀ hb dX11_wipe_7 (by decide) ?_
    refine lv_aload_n hx₀ hb dX11_wipe_13 rfl (lv_at hl 0 rfl) ?_
    refine va_get (D := (dC, dI)) (ci := 2) (v := .int 0) (C := RX2) (T := TX2) (N := 4) hx₀ hb hts inlX2 hown hK hP 2 rfl rfl 1 (by decide) (hts (.fieldLink RX11 98 "BittenStick$Text" "length" "I") wd_137) (fun _ h9 => h9) rfl dX11_wipe_14 ?_
    refine lv_istore_n (lv' := [(3, .int 0), (2, .ref aGe), (0, .ref hx), (1, .int t)]) hx₀ hb dX11_wipe_17 rfl hl (by decide) rfl (fun ls hl => ?_)
    refine lv_aload_n hx₀ hb dX11_wipe_18 rfl (lv_at hl 1 rfl) ?_
    refine lv_iconst (v := 0) hx₀ hb dX11_wipe_19 (by decide +kernel) ?_
    have hPc := hP.sub (ws' := [(aGe, .inr (2, [.ref vGe, .int 0, .int (-1), .int 0]))]) [2] rfl
    have hDc := hD.sub (ws' := [(aGe, .inr (2, [.ref vGe, .int 0, .int (-1), .int 0]))]) [2] (by decide) rfl
    have hFc := va_free (wc := [(aGe, .inr (2, [.ref vGe, .int 0, .int (-1), .int 0]))]) hD hS hA [2] rfl
    refine va_callv (va_runU (As := [.int 0]) (rest := []) ⟨hx₀, hb, hml, hown, hts⟩ (c_shorten0_X2 l dC dI cI cJ cQ H.size aGe vGe (-1) 0) (va_cwU 1 hts (kGU wd_217 wd_213 wd_214 wd_215 wd_216 wd_57) rfl rfl rfl rfl (by decide +kernel) ⟨Nat.le_of_ble_eq_true rfl, Nat.le_of_ble_eq_true rfl⟩) (k_preV (ci := 2) (q0 := 0) hK hPc hDc hN rfl rfl) rfl rfl hl.1 rfl (lv_room (Nat.le_of_ble_eq_true rfl)) dX11_wipe_20 ⟨by decide +kernel, by decide +kernel⟩) hS (fun q _ h => hFc q h) hFc (fun u₀ t₀ H1 locs ht hvm hw hB hz1 hk1 hS => ?_)
    obtain ⟨hP1, hK1, hD1⟩ := hB
    rw [ht] at hP1
    obtain ⟨hP, hD⟩ := va_join (wr := [(aLa, .inr (4, [.ref vLa, .int 0, .int (-1), .int 0])), (aPa, .inr (7, [.ref vPa, .int 0, .int (-1), .int 0])), (hx, .inr (10, [.ref aLa, .ref aPa, .ref aGe, .ref aFl, .ref aTr, .ref aBe, .ref aLu, .ref aLo, .ref vSf, .ref vSm, .ref vCo, .ref vSh, .int 0, .int 0, .int 0]))]) (w1 := [(aGe, .inr (2, [.ref vGe, .int 0, .int (-1), .int 0]))]) hP hD [2] [0, 1, 3] rfl rfl (by decide) (by decide) hk1 hFc hP1 hD1
    generalize H1 = H at hP hS ⊢
    have hP : va_P (dC, dI) vwCl [(aLa, .inr (4, [.ref vLa, .int 0, .int (-1), .int 0])), (aPa, .inr (7, [.ref vPa, .int 0, .int (-1), .int 0])), (hx, .inr (10, [.ref aLa, .ref aPa, .ref aGe, .ref aFl, .ref aTr, .ref aBe, .ref aLu, .ref aLo, .ref vSf, .ref vSm, .ref vCo, .ref vSh, .int 0, .int 0, .int 0])), (aGe, .inr (2, [.ref vGe, .int 0, .int (-1), .int 0]))] H := hP
    have hD : va_D A [(aLa, .inr (4, [.ref vLa, .int 0, .int (-1), .int 0])), (aPa, .inr (7, [.ref vPa, .int 0, .int (-1), .int 0])), (hx, .inr (10, [.ref aLa, .ref aPa, .ref aGe, .ref aFl, .ref aTr, .ref aBe, .ref aLu, .ref aLo, .ref vSf, .ref vSm, .ref vCo, .ref vSh, .int 0, .int 0, .int 0])), (aGe, .inr (2, [.ref vGe, .int 0, .int (-1), .int 0]))] := hD
    refine lv_iload_n hx₀ hb dX11_wipe_23 rfl (lv_at hl 0 rfl) ?_
    exact W.iret (v := 0) hx₀ hb hr (fun t₀ ht hW => ⟨⟨0, (), rfl, (lf_x_wipe_3 t c_2 c_4 c_6), trivial⟩, hS.F ht⟩) hS.2.2 dX11_wipe_24
  rw [if_neg c_6] at hw
  subst hw
  refine W.eq (g2 := F0 m₀ 5 ls [.null]) rfl ?_
  refine lv_astore_nN (lv' := [(2, .null), (0, .ref hx), (1, .int t)]) hx₀ hb dX11_wipe_5 rfl hl (by decide) rfl (fun ls hl => ?_)
  refine lv_aload_nN hx₀ hb dX11_wipe_6 rfl (lv_at hl 0 rfl) ?_
  refine lv_ifnonnullN hx₀ hb dX11_wipe_7 ?_
  refine lv_bipush (v := (-2)) hx₀ hb dX11_wipe_10 (by decide +kernel) ?_
  exact W.iret (v := (-2)) hx₀ hb hr (fun t₀ ht hW => ⟨⟨(-2), (), rfl, (lf_x_wipe_4 t c_2 c_4 c_6), trivial⟩, hS.F ht⟩) hS.2.2 dX11_wipe_12
theorem lf_x_undo_1 (t : Int32) (c_2 : t = 0) : ((-3) : Int32) = if 0 ≤ t ∧ t ≤ 2 then -3 else -2 := by
  repeat first | rfl | rw [if_pos (by (first | omega | (simp only [Int64.le_iff_toInt_le, Int64.lt_iff_toInt_lt, Int32.le_iff_toInt_le, Int32.lt_iff_toInt_lt, ← Int32.toInt_inj, ← Int64.toInt_inj, Int32.toInt_toInt64, (show (-3 : Int32).toInt = -3 from by decide), (show (-3 : Int64).toInt = -3 from by decide), (show (-2 : Int32).toInt = -2 from by decide), (show (-2 : Int64).toInt = -2 from by decide), (show (0 : Int32).toInt = 0 from by decide), (show (0 : Int64).toInt = 0 from by decide), (show (2 : Int32).toInt = 2 from by decide), (show (2 : Int64).toInt = 2 from by decide)] at *; omega)))] | rw [if_neg (by (first | omega | (simp only [Int64.le_iff_toInt_le, Int64.lt_iff_toInt_lt, Int32.le_iff_toInt_le, Int32.lt_iff_toInt_lt, ← Int32.toInt_inj, ← Int64.toInt_inj, Int32.toInt_toInt64, (show (-3 : Int32).toInt = -3 from by decide), (show (-3 : Int64).toInt = -3 from by decide), (show (-2 : Int32).toInt = -2 from by decide), (show (-2 : Int64).toInt = -2 from by decide), (show (0 : Int32).toInt = 0 from by decide), (show (0 : Int64).toInt = 0 from by decide), (show (2 : Int32).toInt = 2 from by decide), (show (2 : Int64).toInt = 2 from by decide)] at *; omega)))]
theorem lf_x_undo_2 (t : Int32) (c_2 : ¬ (t = 0)) (c_3 : t = 1) : ((-3) : Int32) = if 0 ≤ t ∧ t ≤ 2 then -3 else -2 := by
  repeat first | rfl | rw [if_pos (by (first | omega | (simp only [Int64.le_iff_toInt_le, Int64.lt_iff_toInt_lt, Int32.le_iff_toInt_le, Int32.lt_iff_toInt_lt, ← Int32.toInt_inj, ← Int64.toInt_inj, Int32.toInt_toInt64, (show (-3 : Int32).toInt = -3 from by decide), (show (-3 : Int64).toInt = -3 from by decide), (show (-2 : Int32).toInt = -2 from by decide), (show (-2 : Int64).toInt = -2 from by decide), (show (0 : Int32).toInt = 0 from by decide), (show (0 : Int64).toInt = 0 from by decide), (show (1 : Int32).toInt = 1 from by decide), (show (1 : Int64).toInt = 1 from by decide), (show (2 : Int32).toInt = 2 from by decide), (show (2 : Int64).toInt = 2 from by decide)] at *; omega)))] | rw [if_neg (by (first | omega | (simp only [Int64.le_iff_toInt_le, Int64.lt_iff_toInt_lt, Int32.le_iff_toInt_le, Int32.lt_iff_toInt_lt, ← Int32.toInt_inj, ← Int64.toInt_inj, Int32.toInt_toInt64, (show (-3 : Int32).toInt = -3 from by decide), (show (-3 : Int64).toInt = -3 from by decide), (show (-2 : Int32).toInt = -2 from by decide), (show (-2 : Int64).toInt = -2 from by decide), (show (0 : Int32).toInt = 0 from by decide), (show (0 : Int64).toInt = 0 from by decide), (show (1 : Int32).toInt = 1 from by decide), (show (1 : Int64).toInt = 1 from by decide), (show (2 : Int32).toInt = 2 from by decide), (show (2 : Int64).toInt = 2 from by decide)] at *; omega)))]
theorem lf_x_undo_3 (t : Int32) (c_2 : ¬ (t = 0)) (c_3 : ¬ (t = 1)) (c_4 : t = 2) : ((-3) : Int32) = if 0 ≤ t ∧ t ≤ 2 then -3 else -2 := by
  repeat first | rfl | rw [if_pos (by (first | omega | (simp only [Int64.le_iff_toInt_le, Int64.lt_iff_toInt_lt, Int32.le_iff_toInt_le, Int32.lt_iff_toInt_lt, ← Int32.toInt_inj, ← Int64.toInt_inj, Int32.toInt_toInt64, (show (-3 : Int32).toInt = -3 from by decide), (show (-3 : Int64).toInt = -3 from by decide), (show (-2 : Int32).toInt = -2 from by decide), (show (-2 : Int64).toInt = -2 from by decide), (show (0 : Int32).toInt = 0 from by decide), (show (0 : Int64).toInt = 0 from by decide), (show (1 : Int32).toInt = 1 from by decide), (show (1 : Int64).toInt = 1 from by decide), (show (2 : Int32).toInt = 2 from by decide), (show (2 : Int64).toInt = 2 from by decide)] at *; omega)))] | rw [if_neg (by (first | omega | (simp only [Int64.le_iff_toInt_le, Int64.lt_iff_toInt_lt, Int32.le_iff_toInt_le, Int32.lt_iff_toInt_lt, ← Int32.toInt_inj, ← Int64.toInt_inj, Int32.toInt_toInt64, (show (-3 : Int32).toInt = -3 from by decide), (show (-3 : Int64).toInt = -3 from by decide), (show (-2 : Int32).toInt = -2 from by decide), (show (-2 : Int64).toInt = -2 from by decide), (show (0 : Int32).toInt = 0 from by decide), (show (0 : Int64).toInt = 0 from by decide), (show (1 : Int32).toInt = 1 from by decide), (show (1 : Int64).toInt = 1 from by decide), (show (2 : Int32).toInt = 2 from by decide), (show (2 : Int64).toInt = 2 from by decide)] at *; omega)))]
theorem lf_x_undo_4 (t : Int32) (c_2 : ¬ (t = 0)) (c_3 : ¬ (t = 1)) (c_4 : ¬ (t = 2)) : ((-2) : Int32) = if 0 ≤ t ∧ t ≤ 2 then -3 else -2 := by
  repeat first | rfl | rw [if_pos (by (first | omega | (simp only [Int64.le_iff_toInt_le, Int64.lt_iff_toInt_lt, Int32.le_iff_toInt_le, Int32.lt_iff_toInt_lt, ← Int32.toInt_inj, ← Int64.toInt_inj, Int32.toInt_toInt64, (show (-3 : Int32).toInt = -3 from by decide), (show (-3 : Int64).toInt = -3 from by decide), (show (-2 : Int32).toInt = -2 from by decide), (show (-2 : Int64).toInt = -2 from by decide), (show (0 : Int32).toInt = 0 from by decide), (show (0 : Int64).toInt = 0 from by decide), (show (1 : Int32).toInt = 1 from by decide), (show (1 : Int64).toInt = 1 from by decide), (show (2 : Int32).toInt = 2 from by decide), (show (2 : Int64).toInt = 2 from by decide)] at *; omega)))] | rw [if_neg (by (first | omega | (simp only [Int64.le_iff_toInt_le, Int64.lt_iff_toInt_lt, Int32.le_iff_toInt_le, Int32.lt_iff_toInt_lt, ← Int32.toInt_inj, ← Int64.toInt_inj, Int32.toInt_toInt64, (show (-3 : Int32).toInt = -3 from by decide), (show (-3 : Int64).toInt = -3 from by decide), (show (-2 : Int32).toInt = -2 from by decide), (show (-2 : Int64).toInt = -2 from by decide), (show (0 : Int32).toInt = 0 from by decide), (show (0 : Int64).toInt = 0 from by decide), (show (1 : Int32).toInt = 1 from by decide), (show (1 : Int64).toInt = 1 from by decide), (show (2 : Int32).toInt = 2 from by decide), (show (2 : Int64).toInt = 2 from by decide)] at *; omega)))]
set_option maxHeartbeats 4000000 in
set_option maxRecDepth 100000 in
theorem x_undo (l : Launch) (dC : Nat → ClassId) (dI : Nat → Nat → Nat) (cI cJ cQ : ClassId) (sz : Nat) (hx : Nat) (t : Int32) (aLa : Nat) (aPa : Nat) (aGe : Nat) (aFl : Nat) (aTr : Nat) (aBe : Nat) (aLu : Nat) (aLo : Nat) (vSf : Nat) (vSm : Nat) (vCo : Nat) (vSh : Nat) (vLa : Nat) (vPa : Nat) (vGe : Nat) : Met l yX11_undo (kW yX11_undo cX11_undo 3 (some .int)) { frames := 1, cells := 0, slots := 0, locals := 21 } (kPre dC dI cI cJ cQ sz [.ref hx, .int t] [(hx, .inr (10, [.ref aLa, .ref aPa, .ref aGe, .ref aFl, .ref aTr, .ref aBe, .ref aLu, .ref aLo, .ref vSf, .ref vSm, .ref vCo, .ref vSh, .int 0, .int 0, .int 0])), (aLa, .inr (4, [.ref vLa, .int 0, .int (-1), .int 0])), (aPa, .inr (7, [.ref vPa, .int 0, .int (-1), .int 0])), (aGe, .inr (2, [.ref vGe, .int 0, .int (-1), .int 0]))]) (va_Qi (fun (r : Int32) (_ : Unit) => r = if 0 ≤ t ∧ t ≤ 2 then -3 else -2) (fun _ _ => True) (va_A [(hx, .inr (10, [.ref aLa, .ref aPa, .ref aGe, .ref aFl, .ref aTr, .ref aBe, .ref aLu, .ref aLo, .ref vSf, .ref vSm, .ref vCo, .ref vSh, .int 0, .int 0, .int 0])), (aLa, .inr (4, [.ref vLa, .int 0, .int (-1), .int 0])), (aPa, .inr (7, [.ref vPa, .int 0, .int (-1), .int 0])), (aGe, .inr (2, [.ref vGe, .int 0, .int (-1), .int 0]))] sz)) 0 0 (va_A [(hx, .inr (10, [.ref aLa, .ref aPa, .ref aGe, .ref aFl, .ref aTr, .ref aBe, .ref aLu, .ref aLo, .ref vSf, .ref vSm, .ref vCo, .ref vSh, .int 0, .int 0, .int 0])), (aLa, .inr (4, [.ref vLa, .int 0, .int (-1), .int 0])), (aPa, .inr (7, [.ref vPa, .int 0, .int (-1), .int 0])), (aGe, .inr (2, [.ref vGe, .int 0, .int (-1), .int 0]))] sz) := by
  refine Met.ofW (cc := cX11_undo) (maxL := 3) (ret := (some .int)) (by decide) rfl ?_
  intro p₀ e₀ s₀ m₀ args below meth c₀ s₁ B hml hv₀
  obtain ⟨rfl, hsz, hP, hK, hD0, hN⟩ := hv₀
  have hx₀ := B.exec
  have hb := B.bytes
  have hr := B.returns
  have hts := atoms_spec (ws := (kW yX11_undo cX11_undo 3 (some .int))) B.pre
  have hts := fun w h => hts w (List.mem_cons_of_mem _ h)
  have hown : s₀.vm.findClass RX11 = some m₀.cls := findClass_of_methodNamed B.named
  have hlocks := B.notSynchronized
  subst hsz
  have hD := hD0.self (sz := s₀.heap.size)
  generalize hAe : va_A [(hx, .inr (10, [.ref aLa, .ref aPa, .ref aGe, .ref aFl, .ref aTr, .ref aBe, .ref aLu, .ref aLo, .ref vSf, .ref vSm, .ref vCo, .ref vSh, .int 0, .int 0, .int 0])), (aLa, .inr (4, [.ref vLa, .int 0, .int (-1), .int 0])), (aPa, .inr (7, [.ref vPa, .int 0, .int (-1), .int 0])), (aGe, .inr (2, [.ref vGe, .int 0, .int (-1), .int 0]))] s₀.heap.size = A at hD ⊢
  have hA : ∀ q : Nat, s₀.heap.size ≤ q → A q := fun q h => by rw [← hAe]; exact Or.inr h
  have hS : va_S A s₀.heap s₀.heap [] := va_S.rf
  have hP : va_P (dC, dI) vwCl [(hx, .inr (10, [.ref aLa, .ref aPa, .ref aGe, .ref aFl, .ref aTr, .ref aBe, .ref aLu, .ref aLo, .ref vSf, .ref vSm, .ref vCo, .ref vSh, .int 0, .int 0, .int 0])), (aLa, .inr (4, [.ref vLa, .int 0, .int (-1), .int 0])), (aPa, .inr (7, [.ref vPa, .int 0, .int (-1), .int 0])), (aGe, .inr (2, [.ref vGe, .int 0, .int (-1), .int 0]))] s₀.heap := hP
  have hl := lv_entry ([.ref hx, .int t]) (n := 3) (Nat.le_of_ble_eq_true rfl)
  rw [lg_entry_eq]
  generalize (lg_sl ([.ref hx, .int t]) ++ List.replicate (3 - (lg_sl ([.ref hx, .int t])).length) Slot.unset).toArray = ls at hl ⊢
  have hl : lv_has ls 3 [(0, .ref hx), (1, .int t)] := hl
  obtain ⟨H, hH⟩ : ∃ z : Heap, z = s₀.heap := ⟨_, rfl⟩
  rw [← hH] at hP
  have hS : va_S A s₀.heap H [] := by rw [hH]; exact hS
  refine k_heap hH ?_
  have hD : va_D A [(hx, .inr (10, [.ref aLa, .ref aPa, .ref aGe, .ref aFl, .ref aTr, .ref aBe, .ref aLu, .ref aLo, .ref vSf, .ref vSm, .ref vCo, .ref vSh, .int 0, .int 0, .int 0])), (aLa, .inr (4, [.ref vLa, .int 0, .int (-1), .int 0])), (aPa, .inr (7, [.ref vPa, .int 0, .int (-1), .int 0])), (aGe, .inr (2, [.ref vGe, .int 0, .int (-1), .int 0]))] := hD
  obtain ⟨locs, hlo⟩ : ∃ z : List Loc, z = [] := ⟨_, rfl⟩
  rw [← hlo] at hS ⊢
  clear hlo hH hAe hD0
  refine lv_aload_n hx₀ hb dX11_undo_0 rfl (lv_at hl 0 rfl) ?_
  refine lv_iload_n hx₀ hb dX11_undo_1 rfl (lv_at hl 1 rfl) ?_
  have hPc := hP.sub (ws' := [(hx, .inr (10, [.ref aLa, .ref aPa, .ref aGe, .ref aFl, .ref aTr, .ref aBe, .ref aLu, .ref aLo, .ref vSf, .ref vSm, .ref vCo, .ref vSh, .int 0, .int 0, .int 0]))]) [0] rfl
  have hDc := hD.sub (ws' := [(hx, .inr (10, [.ref aLa, .ref aPa, .ref aGe, .ref aFl, .ref aTr, .ref aBe, .ref aLu, .ref aLo, .ref vSf, .ref vSm, .ref vCo, .ref vSh, .int 0, .int 0, .int 0]))]) [0] (by decide) rfl
  have hFc := va_free (wc := [(hx, .inr (10, [.ref aLa, .ref aPa, .ref aGe, .ref aFl, .ref aTr, .ref aBe, .ref aLu, .ref aLo, .ref vSf, .ref vSm, .ref vCo, .ref vSh, .int 0, .int 0, .int 0]))]) hD hS hA [0] rfl
  refine va_callq (va_runV (As := [.int t]) (rest := []) ⟨hx₀, hb, hml, hown, hts⟩ (c_textOf l dC dI cI cJ cQ H.size hx t aLa aPa aGe aFl aTr aBe aLu aLo vSf vSm vCo vSh) (cwV 1 hts (kGV wd_141 wd_138 wd_139 wd_140 wd_2) rfl rfl rfl (by decide +kernel) ⟨Nat.le_of_ble_eq_true rfl, Nat.le_of_ble_eq_true rfl⟩) (k_preV (ci := 10) (q0 := 0) hK hPc hDc hN rfl rfl) rfl rfl hl.1 rfl (lv_room (Nat.le_of_ble_eq_true rfl)) dX11_undo_2 ⟨by decide +kernel, by decide +kernel⟩) hS (fun q _ h => hFc q h) hFc (fun r_1 u₀ t₀ H1 locs ht hvm hw hB hz1 hk1 hS => ?_)
  obtain ⟨hP1, hK1, hD1⟩ := hB
  rw [ht] at hP1
  obtain ⟨hP, hD⟩ := va_join (wr := [(aLa, .inr (4, [.ref vLa, .int 0, .int (-1), .int 0])), (aPa, .inr (7, [.ref vPa, .int 0, .int (-1), .int 0])), (aGe, .inr (2, [.ref vGe, .int 0, .int (-1), .int 0]))]) (w1 := [(hx, .inr (10, [.ref aLa, .ref aPa, .ref aGe, .ref aFl, .ref aTr, .ref aBe, .ref aLu, .ref aLo, .ref vSf, .ref vSm, .ref vCo, .ref vSh, .int 0, .int 0, .int 0]))]) hP hD [0] [1, 2, 3] rfl rfl (by decide) (by decide) hk1 hFc hP1 hD1
  generalize H1 = H at hP hS ⊢
  have hP : va_P (dC, dI) vwCl [(aLa, .inr (4, [.ref vLa, .int 0, .int (-1), .int 0])), (aPa, .inr (7, [.ref vPa, .int 0, .int (-1), .int 0])), (aGe, .inr (2, [.ref vGe, .int 0, .int (-1), .int 0])), (hx, .inr (10, [.ref aLa, .ref aPa, .ref aGe, .ref aFl, .ref aTr, .ref aBe, .ref aLu, .ref aLo, .ref vSf, .ref vSm, .ref vCo, .ref vSh, .int 0, .int 0, .int 0]))] H := hP
  have hD : va_D A [(aLa, .inr (4, [.ref vLa, .int 0, .int (-1), .int 0])), (aPa, .inr (7, [.ref vPa, .int 0, .int (-1), .int 0])), (aGe, .inr (2, [.ref vGe, .int 0, .int (-1), .int 0])), (hx, .inr (10, [.ref aLa, .ref aPa, .ref aGe, .ref aFl, .ref aTr, .ref aBe, .ref aLu, .ref aLo, .ref vSf, .ref vSm, .ref vCo, .ref vSh, .int 0, .int 0, .int 0]))] := hD
  try dsimp only at hw
  by_cases c_2 : t = 0
  · rw [if_pos c_2] at hw
    subst hw
    refine W.eq (g2 := F0 m₀ 5 ls [.ref aLa]) rfl ?_
    refine lv_astore_n (lv' := [(2, .ref aLa), (0, .ref hx), (1, .int t)]) hx₀ hb dX11_undo_5 rfl hl (by decide) rfl (fun ls hl => ?_)
    refine lv_aload_n hx₀ hb dX11_undo_6 rfl (lv_at hl 0 rfl) ?_
    refine lv_ifnonnull (tgt := 13) hx₀ hb dX11_undo_7 (by decide) ?_
    refine lv_aload_n hx₀ hb dX11_undo_13 rfl (lv_at hl 0 rfl) ?_
    refine va_get (D := (dC, dI)) (ci := 4) (v := .int 0) (C := RX4) (T := TX4) (N := 4) hx₀ hb hts inlX4 hown hK hP 0 rfl rfl 1 (by decide) (hts (.fieldLink RX11 98 "BittenStick$Text" "length" "I") wd_137) (fun _ h9 => h9) rfl dX11_undo_14 ?_
    refine lv_if_ne (tgt := 23) hx₀ hb dX11_undo_17 (by decide) (fun c9 => absurd (by decide +kernel) c9) (fun _ => ?_)
    refine lv_bipush (v := (-3)) hx₀ hb dX11_undo_20 (by decide +kernel) ?_
    exact W.iret (v := (-3)) hx₀ hb hr (fun t₀ ht hW => ⟨⟨(-3), (), rfl, (lf_x_undo_1 t c_2), trivial⟩, hS.F ht⟩) hS.2.2 dX11_undo_22
  rw [if_neg c_2] at hw
  by_cases c_3 : t = 1
  · rw [if_pos c_3] at hw
    subst hw
    refine W.eq (g2 := F0 m₀ 5 ls [.ref aPa]) rfl ?_
    refine lv_astore_n (lv' := [(2, .ref aPa), (0, .ref hx), (1, .int t)]) hx₀ hb dX11_undo_5 rfl hl (by decide) rfl (fun ls hl => ?_)
    refine lv_aload_n hx₀ hb dX11_undo_6 rfl (lv_at hl 0 rfl) ?_
    refine lv_ifnonnull (tgt := 13) hx₀ hb dX11_undo_7 (by decide) ?_
    refine lv_aload_n hx₀ hb dX11_undo_13 rfl (lv_at hl 0 rfl) ?_
    refine va_get (D := (dC, dI)) (ci := 7) (v := .int 0) (C := RX7) (T := TX7) (N := 4) hx₀ hb hts inlX7 hown hK hP 1 rfl rfl 1 (by decide) (hts (.fieldLink RX11 98 "BittenStick$Text" "length" "I") wd_137) (fun _ h9 => h9) rfl dX11_undo_14 ?_
    refine lv_if_ne (tgt := 23) hx₀ hb dX11_undo_17 (by decide) (fun c9 => absurd (by decide +kernel) c9) (fun _ => ?_)
    refine lv_bipush (v := (-3)) hx₀ hb dX11_undo_20 (by decide +kernel) ?_
    exact W.iret (v := (-3)) hx₀ hb hr (fun t₀ ht hW => ⟨⟨(-3), (), rfl, (lf_x_undo_2 t c_2 c_3), trivial⟩, hS.F ht⟩) hS.2.2 dX11_undo_22
  rw [if_neg c_3] at hw
  by_cases c_4 : t = 2
  · rw [if_pos c_4] at hw
    subst hw
    refine W.eq (g2 := F0 m₀ 5 ls [.ref aGe]) rfl ?_
    refine lv_astore_n (lv' := [(2, .ref aGe), (0, .ref hx), (1, .int t)]) hx₀ hb dX11_undo_5 rfl hl (by decide) rfl (fun ls hl => ?_)
    refine lv_aload_n hx₀ hb dX11_undo_6 rfl (lv_at hl 0 rfl) ?_
    refine lv_ifnonnull (tgt := 13) hx₀ hb dX11_undo_7 (by decide) ?_
    refine lv_aload_n hx₀ hb dX11_undo_13 rfl (lv_at hl 0 rfl) ?_
    refine va_get (D := (dC, dI)) (ci := 2) (v := .int 0) (C := RX2) (T := TX2) (N := 4) hx₀ hb hts inlX2 hown hK hP 2 rfl rfl 1 (by decide) (hts (.fieldLink RX11 98 "BittenStick$Text" "length" "I") wd_137) (fun _ h9 => h9) rfl dX11_undo_14 ?_
    refine lv_if_ne (tgt := 23) hx₀ hb dX11_undo_17 (by decide) (fun c9 => absurd (by decide +kernel) c9) (fun _ => ?_)
    refine lv_bipush (v := (-3)) hx₀ hb dX11_undo_20 (by decide +kernel) ?_
    exact W.iret (v := (-3)) hx₀ hb hr (fun t₀ ht hW => ⟨⟨(-3), (), rfl, (lf_x_undo_3 t c_2 c_3 c_4), trivial⟩, hS.F ht⟩) hS.2.2 dX11_undo_22
  rw [if_neg c_4] at hw
  subst hw
  refine W.eq (g2 := F0 m₀ 5 ls [.null]) rfl ?_
  refine lv_astore_nN (lv' := [(2, .null), (0, .ref hx), (1, .int t)]) hx₀ hb dX11_undo_5 rfl hl (by decide) rfl (fun ls hl => ?_)
  refine lv_aload_nN hx₀ hb dX11_undo_6 rfl (lv_at hl 0 rfl) ?_
  refine lv_ifnonnullN hx₀ hb dX11_undo_7 ?_
  refine lv_bipush (v := (-2)) hx₀ hb dX11_undo_10 (by decide +kernel) ?_
  exact W.iret (v := (-2)) hx₀ hb hr (fun t₀ ht hW => ⟨⟨(-2), (), rfl, (lf_x_undo_4 t c_2 c_3 c_4), trivial⟩, hS.F ht⟩) hS.2.2 dX11_undo_12
theorem lf_x_fault_1 (t : Int32) (c_2 : t = 0) : ((-1) : Int32) = if 0 ≤ t ∧ t ≤ 2 then -1 else -2 := by
  repeat first | rfl | rw [if_pos (by (first | omega | (simp only [Int64.le_iff_toInt_le, Int64.lt_iff_toInt_lt, Int32.le_iff_toInt_le, Int32.lt_iff_toInt_lt, ← Int32.toInt_inj, ← Int64.toInt_inj, Int32.toInt_toInt64, (show (-2 : Int32).toInt = -2 from by decide), (show (-2 : Int64).toInt = -2 from by decide), (show (-1 : Int32).toInt = -1 from by decide), (show (-1 : Int64).toInt = -1 from by decide), (show (0 : Int32).toInt = 0 from by decide), (show (0 : Int64).toInt = 0 from by decide), (show (2 : Int32).toInt = 2 from by decide), (show (2 : Int64).toInt = 2 from by decide)] at *; omega)))] | rw [if_neg (by (first | omega | (simp only [Int64.le_iff_toInt_le, Int64.lt_iff_toInt_lt, Int32.le_iff_toInt_le, Int32.lt_iff_toInt_lt, ← Int32.toInt_inj, ← Int64.toInt_inj, Int32.toInt_toInt64, (show (-2 : Int32).toInt = -2 from by decide), (show (-2 : Int64).toInt = -2 from by decide), (show (-1 : Int32).toInt = -1 from by decide), (show (-1 : Int64).toInt = -1 from by decide), (show (0 : Int32).toInt = 0 from by decide), (show (0 : Int64).toInt = 0 from by decide), (show (2 : Int32).toInt = 2 from by decide), (show (2 : Int64).toInt = 2 from by decide)] at *; omega)))]
theorem lf_x_fault_2 (t : Int32) (c_2 : ¬ (t = 0)) (c_3 : t = 1) : ((-1) : Int32) = if 0 ≤ t ∧ t ≤ 2 then -1 else -2 := by
  repeat first | rfl | rw [if_pos (by (first | omega | (simp only [Int64.le_iff_toInt_le, Int64.lt_iff_toInt_lt, Int32.le_iff_toInt_le, Int32.lt_iff_toInt_lt, ← Int32.toInt_inj, ← Int64.toInt_inj, Int32.toInt_toInt64, (show (-2 : Int32).toInt = -2 from by decide), (show (-2 : Int64).toInt = -2 from by decide), (show (-1 : Int32).toInt = -1 from by decide), (show (-1 : Int64).toInt = -1 from by decide), (show (0 : Int32).toInt = 0 from by decide), (show (0 : Int64).toInt = 0 from by decide), (show (1 : Int32).toInt = 1 from by decide), (show (1 : Int64).toInt = 1 from by decide), (show (2 : Int32).toInt = 2 from by decide), (show (2 : Int64).toInt = 2 from by decide)] at *; omega)))] | rw [if_neg (by (first | omega | (simp only [Int64.le_iff_toInt_le, Int64.lt_iff_toInt_lt, Int32.le_iff_toInt_le, Int32.lt_iff_toInt_lt, ← Int32.toInt_inj, ← Int64.toInt_inj, Int32.toInt_toInt64, (show (-2 : Int32).toInt = -2 from by decide), (show (-2 : Int64).toInt = -2 from by decide), (show (-1 : Int32).toInt = -1 from by decide), (show (-1 : Int64).toInt = -1 from by decide), (show (0 : Int32).toInt = 0 from by decide), (show (0 : Int64).toInt = 0 from by decide), (show (1 : Int32).toInt = 1 from by decide), (show (1 : Int64).toInt = 1 from by decide), (show (2 : Int32).toInt = 2 from by decide), (show (2 : Int64).toInt = 2 from by decide)] at *; omega)))]
theorem lf_x_fault_3 (t : Int32) (c_2 : ¬ (t = 0)) (c_3 : ¬ (t = 1)) (c_4 : t = 2) : ((-1) : Int32) = if 0 ≤ t ∧ t ≤ 2 then -1 else -2 := by
  repeat first | rfl | rw [if_pos (by (first | omega | (simp only [Int64.le_iff_toInt_le, Int64.lt_iff_toInt_lt, Int32.le_iff_toInt_le, Int32.lt_iff_toInt_lt, ← Int32.toInt_inj, ← Int64.toInt_inj, Int32.toInt_toInt64, (show (-2 : Int32).toInt = -2 from by decide), (show (-2 : Int64).toInt = -2 from by decide), (show (-1 : Int32).toInt = -1 from by decide), (show (-1 : Int64).toInt = -1 from by decide), (show (0 : Int32).toInt = 0 from by decide), (show (0 : Int64).toInt = 0 from by decide), (show (1 : Int32).toInt = 1 from by decide), (show (1 : Int64).toInt = 1 from by decide), (show (2 : Int32).toInt = 2 from by decide), (show (2 : Int64).toInt = 2 from by decide)] at *; omega)))] | rw [if_neg (by (first | omega | (simp only [Int64.le_iff_toInt_le, Int64.lt_iff_toInt_lt, Int32.le_iff_toInt_le, Int32.lt_iff_toInt_lt, ← Int32.toInt_inj, ← Int64.toInt_inj, Int32.toInt_toInt64, (show (-2 : Int32).toInt = -2 from by decide), (show (-2 : Int64).toInt = -2 from by decide), (show (-1 : Int32).toInt = -1 from by decide), (show (-1 : Int64).toInt = -1 from by decide), (show (0 : Int32).toInt = 0 from by decide), (show (0 : Int64).toInt = 0 from by decide), (show (1 : Int32).toInt = 1 from by decide), (show (1 : Int64).toInt = 1 from by decide), (show (2 : Int32).toInt = 2 from by decide), (show (2 : Int64).toInt = 2 from by decide)] at *; omega)))]
theorem lf_x_fault_4 (t : Int32) (c_2 : ¬ (t = 0)) (c_3 : ¬ (t = 1)) (c_4 : ¬ (t = 2)) : ((-2) : Int32) = if 0 ≤ t ∧ t ≤ 2 then -1 else -2 := by
  repeat first | rfl | rw [if_pos (by (first | omega | (simp only [Int64.le_iff_toInt_le, Int64.lt_iff_toInt_lt, Int32.le_iff_toInt_le, Int32.lt_iff_toInt_lt, ← Int32.toInt_inj, ← Int64.toInt_inj, Int32.toInt_toInt64, (show (-2 : Int32).toInt = -2 from by decide), (show (-2 : Int64).toInt = -2 from by decide), (show (-1 : Int32).toInt = -1 from by decide), (show (-1 : Int64).toInt = -1 from by decide), (show (0 : Int32).toInt = 0 from by decide), (show (0 : Int64).toInt = 0 from by decide), (show (1 : Int32).toInt = 1 from by decide), (show (1 : Int64).toInt = 1 from by decide), (show (2 : Int32).toInt = 2 from by decide), (show (2 : Int64).toInt = 2 from by decide)] at *; omega)))] | rw [if_neg (by (first | omega | (simp only [Int64.le_iff_toInt_le, Int64.lt_iff_toInt_lt, Int32.le_iff_toInt_le, Int32.lt_iff_toInt_lt, ← Int32.toInt_inj, ← Int64.toInt_inj, Int32.toInt_toInt64, (show (-2 : Int32).toInt = -2 from by decide), (show (-2 : Int64).toInt = -2 from by decide), (show (-1 : Int32).toInt = -1 from by decide), (show (-1 : Int64).toInt = -1 from by decide), (show (0 : Int32).toInt = 0 from by decide), (show (0 : Int64).toInt = 0 from by decide), (show (1 : Int32).toInt = 1 from by decide), (show (1 : Int64).toInt = 1 from by decide), (show (2 : Int32).toInt = 2 from by decide), (show (2 : Int64).toInt = 2 from by decide)] at *; omega)))]
set_option maxHeartbeats 4000000 in
set_option maxRecDepth 100000 in
theorem x_fault (l : Launch) (dC : Nat → ClassId) (dI : Nat → Nat → Nat) (cI cJ cQ : ClassId) (sz : Nat) (hx : Nat) (t : Int32) (aLa : Nat) (aPa : Nat) (aGe : Nat) (aFl : Nat) (aTr : Nat) (aBe : Nat) (aLu : Nat) (aLo : Nat) (vSf : Nat) (vSm : Nat) (vCo : Nat) (vSh : Nat) (vLa : Nat) (vPa : Nat) (vGe : Nat) : Met l yX11_fault (kW yX11_fault cX11_fault 3 (some .int)) { frames := 1, cells := 0, slots := 0, locals := 21 } (kPre dC dI cI cJ cQ sz [.ref hx, .int t] [(hx, .inr (10, [.ref aLa, .ref aPa, .ref aGe, .ref aFl, .ref aTr, .ref aBe, .ref aLu, .ref aLo, .ref vSf, .ref vSm, .ref vCo, .ref vSh, .int 0, .int 0, .int 0])), (aLa, .inr (4, [.ref vLa, .int 0, .int (-1), .int 0])), (aPa, .inr (7, [.ref vPa, .int 0, .int (-1), .int 0])), (aGe, .inr (2, [.ref vGe, .int 0, .int (-1), .int 0]))]) (va_Qi (fun (r : Int32) (_ : Unit) => r = if 0 ≤ t ∧ t ≤ 2 then -1 else -2) (fun _ t₀ => kB dC dI cI cJ cQ (va_A [(hx, .inr (10, [.ref aLa, .ref aPa, .ref aGe, .ref aFl, .ref aTr, .ref aBe, .ref aLu, .ref aLo, .ref vSf, .ref vSm, .ref vCo, .ref vSh, .int 0, .int 0, .int 0])), (aLa, .inr (4, [.ref vLa, .int 0, .int (-1), .int 0])), (aPa, .inr (7, [.ref vPa, .int 0, .int (-1), .int 0])), (aGe, .inr (2, [.ref vGe, .int 0, .int (-1), .int 0]))] sz) [(hx, .inr (10, [.ref aLa, .ref aPa, .ref aGe, .ref aFl, .ref aTr, .ref aBe, .ref aLu, .ref aLo, .ref vSf, .ref vSm, .ref vCo, .ref vSh, .int 0, .int 0, .int 0])), (aLa, .inr (4, [.ref vLa, .int 0, .int (-1), .int 0])), (aPa, .inr (7, [.ref vPa, .int 0, .int (-1), .int 0])), (aGe, .inr (2, [.ref vGe, .int 0, .int (-1), .int 0]))] t₀) (va_A [(hx, .inr (10, [.ref aLa, .ref aPa, .ref aGe, .ref aFl, .ref aTr, .ref aBe, .ref aLu, .ref aLo, .ref vSf, .ref vSm, .ref vCo, .ref vSh, .int 0, .int 0, .int 0])), (aLa, .inr (4, [.ref vLa, .int 0, .int (-1), .int 0])), (aPa, .inr (7, [.ref vPa, .int 0, .int (-1), .int 0])), (aGe, .inr (2, [.ref vGe, .int 0, .int (-1), .int 0]))] sz)) 0 0 (va_A [(hx, .inr (10, [.ref aLa, .ref aPa, .ref aGe, .ref aFl, .ref aTr, .ref aBe, .ref aLu, .ref aLo, .ref vSf, .ref vSm, .ref vCo, .ref vSh, .int 0, .int 0, .int 0])), (aLa, .inr (4, [.ref vLa, .int 0, .int (-1), .int 0])), (aPa, .inr (7, [.ref vPa, .int 0, .int (-1), .int 0])), (aGe, .inr (2, [.ref vGe, .int 0, .int (-1), .int 0]))] sz) := by
  refine Met.ofW (cc := cX11_fault) (maxL := 3) (ret := (some .int)) (by decide) rfl ?_
  intro p₀ e₀ s₀ m₀ args below meth c₀ s₁ B hml hv₀
  obtain ⟨rfl, hsz, hP, hK, hD0, hN⟩ := hv₀
  have hx₀ := B.exec
  have hb := B.bytes
  have hr := B.returns
  have hts := atoms_spec (ws := (kW yX11_fault cX11_fault 3 (some .int))) B.pre
  have hts := fun w h => hts w (List.mem_cons_of_mem _ h)
  have hown : s₀.vm.findClass RX11 = some m₀.cls := findClass_of_methodNamed B.named
  have hlocks := B.notSynchronized
  subst hsz
  have hD := hD0.self (sz := s₀.heap.size)
  generalize hAe : va_A [(hx, .inr (10, [.ref aLa, .ref aPa, .ref aGe, .ref aFl, .ref aTr, .ref aBe, .ref aLu, .ref aLo, .ref vSf, .ref vSm, .ref vCo, .ref vSh, .int 0, .int 0, .int 0])), (aLa, .inr (4, [.ref vLa, .int 0, .int (-1), .int 0])), (aPa, .inr (7, [.ref vPa, .int 0, .int (-1), .int 0])), (aGe, .inr (2, [.ref vGe, .int 0, .int (-1), .int 0]))] s₀.heap.size = A at hD ⊢
  have hA : ∀ q : Nat, s₀.heap.size ≤ q → A q := fun q h => by rw [← hAe]; exact Or.inr h
  have hS : va_S A s₀.heap s₀.heap [] := va_S.rf
  have hP : va_P (dC, dI) vwCl [(hx, .inr (10, [.ref aLa, .ref aPa, .ref aGe, .ref aFl, .ref aTr, .ref aBe, .ref aLu, .ref aLo, .ref vSf, .ref vSm, .ref vCo, .ref vSh, .int 0, .int 0, .int 0])), (aLa, .inr (4, [.ref vLa, .int 0, .int (-1), .int 0])), (aPa, .inr (7, [.ref vPa, .int 0, .int (-1), .int 0])), (aGe, .inr (2, [.ref vGe, .int 0, .int (-1), .int 0]))] s₀.heap := hP
  have hl := lv_entry ([.ref hx, .int t]) (n := 3) (Nat.le_of_ble_eq_true rfl)
  rw [lg_entry_eq]
  generalize (lg_sl ([.ref hx, .int t]) ++ List.replicate (3 - (lg_sl ([.ref hx, .int t])).length) Slot.unset).toArray = ls at hl ⊢
  have hl : lv_has ls 3 [(0, .ref hx), (1, .int t)] := hl
  obtain ⟨H, hH⟩ : ∃ z : Heap, z = s₀.heap := ⟨_, rfl⟩
  rw [← hH] at hP
  have hS : va_S A s₀.heap H [] := by rw [hH]; exact hS
  refine k_heap hH ?_
  have hD : va_D A [(hx, .inr (10, [.ref aLa, .ref aPa, .ref aGe, .ref aFl, .ref aTr, .ref aBe, .ref aLu, .ref aLo, .ref vSf, .ref vSm, .ref vCo, .ref vSh, .int 0, .int 0, .int 0])), (aLa, .inr (4, [.ref vLa, .int 0, .int (-1), .int 0])), (aPa, .inr (7, [.ref vPa, .int 0, .int (-1), .int 0])), (aGe, .inr (2, [.ref vGe, .int 0, .int (-1), .int 0]))] := hD
  obtain ⟨locs, hlo⟩ : ∃ z : List Loc, z = [] := ⟨_, rfl⟩
  rw [← hlo] at hS ⊢
  clear hlo hH hAe hD0
  refine lv_aload_n hx₀ hb dX11_fault_0 rfl (lv_at hl 0 rfl) ?_
  refine lv_iload_n hx₀ hb dX11_fault_1 rfl (lv_at hl 1 rfl) ?_
  have hPc := hP.sub (ws' := [(hx, .inr (10, [.ref aLa, .ref aPa, .ref aGe, .ref aFl, .ref aTr, .ref aBe, .ref aLu, .ref aLo, .ref vSf, .ref vSm, .ref vCo, .ref vSh, .int 0, .int 0, .int 0]))]) [0] rfl
  have hDc := hD.sub (ws' := [(hx, .inr (10, [.ref aLa, .ref aPa, .ref aGe, .ref aFl, .ref aTr, .ref aBe, .ref aLu, .ref aLo, .ref vSf, .ref vSm, .ref vCo, .ref vSh, .int 0, .int 0, .int 0]))]) [0] (by decide) rfl
  have hFc := va_free (wc := [(hx, .inr (10, [.ref aLa, .ref aPa, .ref aGe, .ref aFl, .ref aTr, .ref aBe, .ref aLu, .ref aLo, .ref vSf, .ref vSm, .ref vCo, .ref vSh, .int 0, .int 0, .int 0]))]) hD hS hA [0] rfl
  refine va_callq (va_runV (As := [.int t]) (rest := []) ⟨hx₀, hb, hml, hown, hts⟩ (c_textOf l dC dI cI cJ cQ H.size hx t aLa aPa aGe aFl aTr aBe aLu aLo vSf vSm vCo vSh) (cwV 1 hts (kGV wd_141 wd_138 wd_139 wd_140 wd_2) rfl rfl rfl (by decide +kernel) ⟨Nat.le_of_ble_eq_true rfl, Nat.le_of_ble_eq_true rfl⟩) (k_preV (ci := 10) (q0 := 0) hK hPc hDc hN rfl rfl) rfl rfl hl.1 rfl (lv_room (Nat.le_of_ble_eq_true rfl)) dX11_fault_2 ⟨by decide +kernel, by decide +kernel⟩) hS (fun q _ h => hFc q h) hFc (fun r_1 u₀ t₀ H1 locs ht hvm hw hB hz1 hk1 hS => ?_)
  obtain ⟨hP1, hK1, hD1⟩ := hB
  rw [ht] at hP1
  obtain ⟨hP, hD⟩ := va_join (wr := [(aLa, .inr (4, [.ref vLa, .int 0, .int (-1), .int 0])), (aPa, .inr (7, [.ref vPa, .int 0, .int (-1), .int 0])), (aGe, .inr (2, [.ref vGe, .int 0, .int (-1), .int 0]))]) (w1 := [(hx, .inr (10, [.ref aLa, .ref aPa, .ref aGe, .ref aFl, .ref aTr, .ref aBe, .ref aLu, .ref aLo, .ref vSf, .ref vSm, .ref vCo, .ref vSh, .int 0, .int 0, .int 0]))]) hP hD [0] [1, 2, 3] rfl rfl (by decide) (by decide) hk1 hFc hP1 hD1
  generalize H1 = H at hP hS ⊢
  have hP : va_P (dC, dI) vwCl [(aLa, .inr (4, [.ref vLa, .int 0, .int (-1), .int 0])), (aPa, .inr (7, [.ref vPa, .int 0, .int (-1), .int 0])), (aGe, .inr (2, [.ref vGe, .int 0, .int (-1), .int 0])), (hx, .inr (10, [.ref aLa, .ref aPa, .ref aGe, .ref aFl, .ref aTr, .ref aBe, .ref aLu, .ref aLo, .ref vSf, .ref vSm, .ref vCo, .ref vSh, .int 0, .int 0, .int 0]))] H := hP
  have hD : va_D A [(aLa, .inr (4, [.ref vLa, .int 0, .int (-1), .int 0])), (aPa, .inr (7, [.ref vPa, .int 0, .int (-1), .int 0])), (aGe, .inr (2, [.ref vGe, .int 0, .int (-1), .int 0])), (hx, .inr (10, [.ref aLa, .ref aPa, .ref aGe, .ref aFl, .ref aTr, .ref aBe, .ref aLu, .ref aLo, .ref vSf, .ref vSm, .ref vCo, .ref vSh, .int 0, .int 0, .int 0]))] := hD
  try dsimp only at hw
  by_cases c_2 : t = 0
  · rw [if_pos c_2] at hw
    subst hw
    refine W.eq (g2 := F0 m₀ 5 ls [.ref aLa]) rfl ?_
    refine lv_astore_n (lv' := [(2, .ref aLa), (0, .ref hx), (1, .int t)]) hx₀ hb dX11_fault_5 rfl hl (by decide) rfl (fun ls hl => ?_)
    refine lv_aload_n hx₀ hb dX11_fault_6 rfl (lv_at hl 0 rfl) ?_
    refine lv_ifnonnull (tgt := 15) hx₀ hb dX11_fault_7 (by decide) ?_
    refine lv_aload_n hx₀ hb dX11_fault_15 rfl (lv_at hl 0 rfl) ?_
    refine va_get (D := (dC, dI)) (ci := 4) (v := .int (-1)) (C := RX4) (T := TX4) (N := 4) hx₀ hb hts inlX4 hown hK hP 0 rfl rfl 2 (by decide) (hts (.fieldLink RX11 105 "BittenStick$Text" "faultAt" "I") wd_239) (fun _ h9 => h9) rfl dX11_fault_16 ?_
    have hP9 := hP.sub (ws' := [(hx, .inr (10, [.ref aLa, .ref aPa, .ref aGe, .ref aFl, .ref aTr, .ref aBe, .ref aLu, .ref aLo, .ref vSf, .ref vSm, .ref vCo, .ref vSh, .int 0, .int 0, .int 0])), (aLa, .inr (4, [.ref vLa, .int 0, .int (-1), .int 0])), (aPa, .inr (7, [.ref vPa, .int 0, .int (-1), .int 0])), (aGe, .inr (2, [.ref vGe, .int 0, .int (-1), .int 0]))]) [3, 0, 1, 2] rfl
    have hD9 := hD.sub (ws' := [(hx, .inr (10, [.ref aLa, .ref aPa, .ref aGe, .ref aFl, .ref aTr, .ref aBe, .ref aLu, .ref aLo, .ref vSf, .ref vSm, .ref vCo, .ref vSh, .int 0, .int 0, .int 0])), (aLa, .inr (4, [.ref vLa, .int 0, .int (-1), .int 0])), (aPa, .inr (7, [.ref vPa, .int 0, .int (-1), .int 0])), (aGe, .inr (2, [.ref vGe, .int 0, .int (-1), .int 0]))]) [3, 0, 1, 2] (by decide) rfl
    exact W.iret (v := (-1)) hx₀ hb hr (fun t₀ ht hW => ⟨⟨(-1), (), rfl, (lf_x_fault_1 t c_2), by rw [ht]; exact hP9, va_K.moved hW.alike hK, hD9⟩, hS.F ht⟩) hS.2.2 dX11_fault_19
  rw [if_neg c_2] at hw
  by_cases c_3 : t = 1
  · rw [if_pos c_3] at hw
    subst hw
    refine W.eq (g2 := F0 m₀ 5 ls [.ref aPa]) rfl ?_
    refine lv_astore_n (lv' := [(2, .ref aPa), (0, .ref hx), (1, .int t)]) hx₀ hb dX11_fault_5 rfl hl (by decide) rfl (fun ls hl => ?_)
    refine lv_aload_n hx₀ hb dX11_fault_6 rfl (lv_at hl 0 rfl) ?_
    refine lv_ifnonnull (tgt := 15) hx₀ hb dX11_fault_7 (by decide) ?_
    refine lv_aload_n hx₀ hb dX11_fault_15 rfl (lv_at hl 0 rfl) ?_
    refine va_get (D := (dC, dI)) (ci := 7) (v := .int (-1)) (C := RX7) (T := TX7) (N := 4) hx₀ hb hts inlX7 hown hK hP 1 rfl rfl 2 (by decide) (hts (.fieldLink RX11 105 "BittenStick$Text" "faultAt" "I") wd_239) (fun _ h9 => h9) rfl dX11_fault_16 ?_
    have hP9 := hP.sub (ws' := [(hx, .inr (10, [.ref aLa, .ref aPa, .ref aGe, .ref aFl, .ref aTr, .ref aBe, .ref aLu, .ref aLo, .ref vSf, .ref vSm, .ref vCo, .ref vSh, .int 0, .int 0, .int 0])), (aLa, .inr (4, [.ref vLa, .int 0, .int (-1), .int 0])), (aPa, .inr (7, [.ref vPa, .int 0, .int (-1), .int 0])), (aGe, .inr (2, [.ref vGe, .int 0, .int (-1), .int 0]))]) [3, 0, 1, 2] rfl
    have hD9 := hD.sub (ws' := [(hx, .inr (10, [.ref aLa, .ref aPa, .ref aGe, .ref aFl, .ref aTr, .ref aBe, .ref aLu, .ref aLo, .ref vSf, .ref vSm, .ref vCo, .ref vSh, .int 0, .int 0, .int 0])), (aLa, .inr (4, [.ref vLa, .int 0, .int (-1), .int 0])), (aPa, .inr (7, [.ref vPa, .int 0, .int (-1), .int 0])), (aGe, .inr (2, [.ref vGe, .int 0, .int (-1), .int 0]))]) [3, 0, 1, 2] (by decide) rfl
    exact W.iret (v := (-1)) hx₀ hb hr (fun t₀ ht hW => ⟨⟨(-1), (), rfl, (lf_x_fault_2 t c_2 c_3), by rw [ht]; exact hP9, va_K.moved hW.alike hK, hD9⟩, hS.F ht⟩) hS.2.2 dX11_fault_19
  rw [if_neg c_3] at hw
  by_cases c_4 : t = 2
  · rw [if_pos c_4] at hw
    subst hw
    refine W.eq (g2 := F0 m₀ 5 ls [.ref aGe]) rfl ?_
    refine lv_astore_n (lv' := [(2, .ref aGe), (0, .ref hx), (1, .int t)]) hx₀ hb dX11_fault_5 rfl hl (by decide) rfl (fun ls hl => ?_)
    refine lv_aload_n hx₀ hb dX11_fault_6 rfl (lv_at hl 0 rfl) ?_
    refine lv_ifnonnull (tgt := 15) hx₀ hb dX11_fault_7 (by decide) ?_
    refine lv_aload_n hx₀ hb dX11_fault_15 rfl (lv_at hl 0 rfl) ?_
    refine va_get (D := (dC, dI)) (ci := 2) (v := .int (-1)) (C := RX2) (T := TX2) (N := 4) hx₀ hb hts inlX2 hown hK hP 2 rfl rfl 2 (by decide) (hts (.fieldLink RX11 105 "BittenStick$Text" "faultAt" "I") wd_239) (fun _ h9 => h9) rfl dX11_fault_16 ?_
    have hP9 := hP.sub (ws' := [(hx, .inr (10, [.ref aLa, .ref aPa, .ref aGe, .ref aFl, .ref aTr, .ref aBe, .ref aLu, .ref aLo, .ref vSf, .ref vSm, .ref vCo, .ref vSh, .int 0, .int 0, .int 0])), (aLa, .inr (4, [.ref vLa, .int 0, .int (-1), .int 0])), (aPa, .inr (7, [.ref vPa, .int 0, .int (-1), .int 0])), (aGe, .inr (2, [.ref vGe, .int 0, .int (-1), .int 0]))]) [3, 0, 1, 2] rfl
    have hD9 := hD.sub (ws' := [(hx, .inr (10, [.ref aLa, .ref aPa, .ref aGe, .ref aFl, .ref aTr, .ref aBe, .ref aLu, .ref aLo, .ref vSf, .ref vSm, .ref vCo, .ref vSh, .int 0, .int 0, .int 0])), (aLa, .inr (4, [.ref vLa, .int 0, .int (-1), .int 0])), (aPa, .inr (7, [.ref vPa, .int 0, .int (-1), .int 0])), (aGe, .inr (2, [.ref vGe, .int 0, .int (-1), .int 0]))]) [3, 0, 1, 2] (by decide) rfl
    exact W.iret (v := (-1)) hx₀ hb hr (fun t₀ ht hW => ⟨⟨(-1), (), rfl, (lf_x_fault_3 t c_2 c_3 c_4), by rw [ht]; exact hP9, va_K.moved hW.alike hK, hD9⟩, hS.F ht⟩) hS.2.2 dX11_fault_19
  rw [if_neg c_4] at hw
  subst hw
  refine W.eq (g2 := F0 m₀ 5 ls [.null]) rfl ?_
  refine lv_astore_nN (lv' := [(2, .null), (0, .ref hx), (1, .int t)]) hx₀ hb dX11_fault_5 rfl hl (by decide) rfl (fun ls hl => ?_)
  refine lv_aload_nN hx₀ hb dX11_fault_6 rfl (lv_at hl 0 rfl) ?_
  refine lv_ifnonnullN hx₀ hb dX11_fault_7 ?_
  refine lv_bipush (v := (-2)) hx₀ hb dX11_fault_10 (by decide +kernel) ?_
  refine lv_goto (tgt := 19) hx₀ hb dX11_fault_12 (by decide) ?_
  have hP9 := hP.sub (ws' := [(hx, .inr (10, [.ref aLa, .ref aPa, .ref aGe, .ref aFl, .ref aTr, .ref aBe, .ref aLu, .ref aLo, .ref vSf, .ref vSm, .ref vCo, .ref vSh, .int 0, .int 0, .int 0])), (aLa, .inr (4, [.ref vLa, .int 0, .int (-1), .int 0])), (aPa, .inr (7, [.ref vPa, .int 0, .int (-1), .int 0])), (aGe, .inr (2, [.ref vGe, .int 0, .int (-1), .int 0]))]) [3, 0, 1, 2] rfl
  have hD9 := hD.sub (ws' := [(hx, .inr (10, [.ref aLa, .ref aPa, .ref aGe, .ref aFl, .ref aTr, .ref aBe, .ref aLu, .ref aLo, .ref vSf, .ref vSm, .ref vCo, .ref vSh, .int 0, .int 0, .int 0])), (aLa, .inr (4, [.ref vLa, .int 0, .int (-1), .int 0])), (aPa, .inr (7, [.ref vPa, .int 0, .int (-1), .int 0])), (aGe, .inr (2, [.ref vGe, .int 0, .int (-1), .int 0]))]) [3, 0, 1, 2] (by decide) rfl
  exact W.iret (v := (-2)) hx₀ hb hr (fun t₀ ht hW => ⟨⟨(-2), (), rfl, (lf_x_fault_4 t c_2 c_3 c_4), by rw [ht]; exact hP9, va_K.moved hW.alike hK, hD9⟩, hS.F ht⟩) hS.2.2 dX11_fault_19
theorem lf_x_mile_1 (k : Int32) (c_1 : k < 0) : ((-2) : Int32) = if 0 ≤ k ∧ k ≤ 23 then -1 else -2 := by
  repeat first | rfl | rw [if_pos (by (first | omega | (simp only [Int64.le_iff_toInt_le, Int64.lt_iff_toInt_lt, Int32.le_iff_toInt_le, Int32.lt_iff_toInt_lt, ← Int32.toInt_inj, ← Int64.toInt_inj, Int32.toInt_toInt64, (show (-2 : Int32).toInt = -2 from by decide), (show (-2 : Int64).toInt = -2 from by decide), (show (-1 : Int32).toInt = -1 from by decide), (show (-1 : Int64).toInt = -1 from by decide), (show (0 : Int32).toInt = 0 from by decide), (show (0 : Int64).toInt = 0 from by decide), (show (23 : Int32).toInt = 23 from by decide), (show (23 : Int64).toInt = 23 from by decide)] at *; omega)))] | rw [if_neg (by (first | omega | (simp only [Int64.le_iff_toInt_le, Int64.lt_iff_toInt_lt, Int32.le_iff_toInt_le, Int32.lt_iff_toInt_lt, ← Int32.toInt_inj, ← Int64.toInt_inj, Int32.toInt_toInt64, (show (-2 : Int32).toInt = -2 from by decide), (show (-2 : Int64).toInt = -2 from by decide), (show (-1 : Int32).toInt = -1 from by decide), (show (-1 : Int64).toInt = -1 from by decide), (show (0 : Int32).toInt = 0 from by decide), (show (0 : Int64).toInt = 0 from by decide), (show (23 : Int32).toInt = 23 from by decide), (show (23 : Int64).toInt = 23 from by decide)] at *; omega)))]
theorem lf_x_mile_2 (k : Int32) (c_1 : ¬ k < 0) (c_2 : k < 24) (c9 : ¬ 0 ≤ k) : False := by
  (first | omega | (simp only [Int64.le_iff_toInt_le, Int64.lt_iff_toInt_lt, Int32.le_iff_toInt_le, Int32.lt_iff_toInt_lt, ← Int32.toInt_inj, ← Int64.toInt_inj, Int32.toInt_toInt64, (show (0 : Int32).toInt = 0 from by decide), (show (0 : Int64).toInt = 0 from by decide), (show (24 : Int32).toInt = 24 from by decide), (show (24 : Int64).toInt = 24 from by decide)] at *; omega))
theorem lf_x_mile_3 (k : Int32) (c_1 : ¬ k < 0) (c_2 : k < 24) (c_3 : 0 ≤ k) : ((-1) : Int32) = if 0 ≤ k ∧ k ≤ 23 then -1 else -2 := by
  repeat first | rfl | rw [if_pos (by (first | omega | (simp only [Int64.le_iff_toInt_le, Int64.lt_iff_toInt_lt, Int32.le_iff_toInt_le, Int32.lt_iff_toInt_lt, ← Int32.toInt_inj, ← Int64.toInt_inj, Int32.toInt_toInt64, (show (-2 : Int32).toInt = -2 from by decide), (show (-2 : Int64).toInt = -2 from by decide), (show (-1 : Int32).toInt = -1 from by decide), (show (-1 : Int64).toInt = -1 from by decide), (show (0 : Int32).toInt = 0 from by decide), (show (0 : Int64).toInt = 0 from by decide), (show (23 : Int32).toInt = 23 from by decide), (show (23 : Int64).toInt = 23 from by decide), (show (24 : Int32).toInt = 24 from by decide), (show (24 : Int64).toInt = 24 from by decide)] at *; omega)))] | rw [if_neg (by (first | omega | (simp only [Int64.le_iff_toInt_le, Int64.lt_iff_toInt_lt, Int32.le_iff_toInt_le, Int32.lt_iff_toInt_lt, ← Int32.toInt_inj, ← Int64.toInt_inj, Int32.toInt_toInt64, (show (-2 : Int32).toInt = -2 from by decide), (show (-2 : Int64).toInt = -2 from by decide), (show (-1 : Int32).toInt = -1 from by decide), (show (-1 : Int64).toInt = -1 from by decide), (show (0 : Int32).toInt = 0 from by decide), (show (0 : Int64).toInt = 0 from by decide), (show (23 : Int32).toInt = 23 from by decide), (show (23 : Int64).toInt = 23 from by decide), (show (24 : Int32).toInt = 24 from by decide), (show (24 : Int64).toInt = 24 from by decide)] at *; omega)))]
theorem lf_x_mile_4 (k : Int32) (c_1 : ¬ k < 0) (c_2 : ¬ k < 24) : ((-2) : Int32) = if 0 ≤ k ∧ k ≤ 23 then -1 else -2 := by
  repeat first | rfl | rw [if_pos (by (first | omega | (simp only [Int64.le_iff_toInt_le, Int64.lt_iff_toInt_lt, Int32.le_iff_toInt_le, Int32.lt_iff_toInt_lt, ← Int32.toInt_inj, ← Int64.toInt_inj, Int32.toInt_toInt64, (show (-2 : Int32).toInt = -2 from by decide), (show (-2 : Int64).toInt = -2 from by decide), (show (-1 : Int32).toInt = -1 from by decide), (show (-1 : Int64).toInt = -1 from by decide), (show (0 : Int32).toInt = 0 from by decide), (show (0 : Int64).toInt = 0 from by decide), (show (23 : Int32).toInt = 23 from by decide), (show (23 : Int64).toInt = 23 from by decide), (show (24 : Int32).toInt = 24 from by decide), (show (24 : Int64).toInt = 24 from by decide)] at *; omega)))] | rw [if_neg (by (first | omega | (simp only [Int64.le_iff_toInt_le, Int64.lt_iff_toInt_lt, Int32.le_iff_toInt_le, Int32.lt_iff_toInt_lt, ← Int32.toInt_inj, ← Int64.toInt_inj, Int32.toInt_toInt64, (show (-2 : Int32).toInt = -2 from by decide), (show (-2 : Int64).toInt = -2 from by decide), (show (-1 : Int32).toInt = -1 from by decide), (show (-1 : Int64).toInt = -1 from by decide), (show (0 : Int32).toInt = 0 from by decide), (show (0 : Int64).toInt = 0 from by decide), (show (23 : Int32).toInt = 23 from by decide), (show (23 : Int64).toInt = 23 from by decide), (show (24 : Int32).toInt = 24 from by decide), (show (24 : Int64).toInt = 24 from by decide)] at *; omega)))]
set_option maxHeartbeats 4000000 in
set_option maxRecDepth 100000 in
theorem x_mile (l : Launch) (dC : Nat → ClassId) (dI : Nat → Nat → Nat) (cI cJ cQ : ClassId) (sz : Nat) (hx : Nat) (k : Int32) (aLa : Nat) (aPa : Nat) (aGe : Nat) (aFl : Nat) (aTr : Nat) (aBe : Nat) (aLu : Nat) (aLo : Nat) (vSf : Nat) (vSm : Nat) (vCo : Nat) (vSh : Nat) (vLa : Nat) : Met l yX11_mile (kW yX11_mile cX11_mile 2 (some .int)) { frames := 0, cells := 0, slots := 0, locals := 0 } (kPre dC dI cI cJ cQ sz [.ref hx, .int k] [(hx, .inr (10, [.ref aLa, .ref aPa, .ref aGe, .ref aFl, .ref aTr, .ref aBe, .ref aLu, .ref aLo, .ref vSf, .ref vSm, .ref vCo, .ref vSh, .int 0, .int 0, .int 0])), (aLa, .inr (4, [.ref vLa, .int 0, .int (-1), .int 0]))]) (va_Qi (fun (r : Int32) (_ : Unit) => r = if 0 ≤ k ∧ k ≤ 23 then -1 else -2) (fun _ _ => True) (va_A [(hx, .inr (10, [.ref aLa, .ref aPa, .ref aGe, .ref aFl, .ref aTr, .ref aBe, .ref aLu, .ref aLo, .ref vSf, .ref vSm, .ref vCo, .ref vSh, .int 0, .int 0, .int 0])), (aLa, .inr (4, [.ref vLa, .int 0, .int (-1), .int 0]))] sz)) 0 0 (va_A [(hx, .inr (10, [.ref aLa, .ref aPa, .ref aGe, .ref aFl, .ref aTr, .ref aBe, .ref aLu, .ref aLo, .ref vSf, .ref vSm, .ref vCo, .ref vSh, .int 0, .int 0, .int 0])), (aLa, .inr (4, [.ref vLa, .int 0, .int (-1), .int 0]))] sz) := by
  refine Met.ofW (cc := cX11_mile) (maxL := 2) (ret := (some .int)) (by decide) rfl ?_
  intro p₀ e₀ s₀ m₀ args below meth c₀ s₁ B hml hv₀
  obtain ⟨rfl, hsz, hP, hK, hD0, hN⟩ := hv₀
  have hx₀ := B.exec
  have hb := B.bytes
  have hr := B.returns
  have hts := atoms_spec (ws := (kW yX11_mile cX11_mile 2 (some .int))) B.pre
  have hts := fun w h => hts w (List.mem_cons_of_mem _ h)
  have hown : s₀.vm.findClass RX11 = some m₀.cls := findClass_of_methodNamed B.named
  have hlocks := B.notSynchronized
  subst hsz
  have hD := hD0.self (sz := s₀.heap.size)
  generalize hAe : va_A [(hx, .inr (10, [.ref aLa, .ref aPa, .ref aGe, .ref aFl, .ref aTr, .ref aBe, .ref aLu, .ref aLo, .ref vSf, .ref vSm, .ref vCo, .ref vSh, .int 0, .int 0, .int 0])), (aLa, .inr (4, [.ref vLa, .int 0, .int (-1), .int 0]))] s₀.heap.size = A at hD ⊢
  have hA : ∀ q : Nat, s₀.heap.size ≤ q → A q := fun q h => by rw [← hAe]; exact Or.inr h
  have hS : va_S A s₀.heap s₀.heap [] := va_S.rf
  have hP : va_P (dC, dI) vwCl [(hx, .inr (10, [.ref aLa, .ref aPa, .ref aGe, .ref aFl, .ref aTr, .ref aBe, .ref aLu, .ref aLo, .ref vSf, .ref vSm, .ref vCo, .ref vSh, .int 0, .int 0, .int 0])), (aLa, .inr (4, [.ref vLa, .int 0, .int (-1), .int 0]))] s₀.heap := hP
  have hl := lv_entry ([.ref hx, .int k]) (n := 2) (Nat.le_of_ble_eq_true rfl)
  rw [lg_entry_eq]
  generalize (lg_sl ([.ref hx, .int k]) ++ List.replicate (2 - (lg_sl ([.ref hx, .int k])).length) Slot.unset).toArray = ls at hl ⊢
  have hl : lv_has ls 2 [(0, .ref hx), (1, .int k)] := hl
  obtain ⟨H, hH⟩ : ∃ z : Heap, z = s₀.heap := ⟨_, rfl⟩
  rw [← hH] at hP
  have hS : va_S A s₀.heap H [] := by rw [hH]; exact hS
  refine k_heap hH ?_
  have hD : va_D A [(hx, .inr (10, [.ref aLa, .ref aPa, .ref aGe, .ref aFl, .ref aTr, .ref aBe, .ref aLu, .ref aLo, .ref vSf, .ref vSm, .ref vCo, .ref vSh, .int 0, .int 0, .int 0])), (aLa, .inr (4, [.ref vLa, .int 0, .int (-1), .int 0]))] := hD
  obtain ⟨locs, hlo⟩ : ∃ z : List Loc, z = [] := ⟨_, rfl⟩
  rw [← hlo] at hS ⊢
  clear hlo hH hAe hD0
  refine lv_iload_n hx₀ hb dX11_mile_0 rfl (lv_at hl 1 rfl) ?_
  refine lv_if_lt (tgt := 10) hx₀ hb dX11_mile_1 (by decide) (fun c_1 => ?_) (fun c_1 => ?_)
  · refine lv_bipush (v := (-2)) hx₀ hb dX11_mile_10 (by decide +kernel) ?_
    exact W.iret (v := (-2)) hx₀ hb hr (fun t₀ ht hW => ⟨⟨(-2), (), rfl, (lf_x_mile_1 k c_1), trivial⟩, hS.F ht⟩) hS.2.2 dX11_mile_12
  · refine lv_iload_n hx₀ hb dX11_mile_4 rfl (lv_at hl 1 rfl) ?_
    refine lv_bipush (v := 24) hx₀ hb dX11_mile_5 (by decide +kernel) ?_
    refine lv_icmp_lt (tgt := 13) hx₀ hb dX11_mile_7 (by decide) (fun c_2 => ?_) (fun c_2 => ?_)
    · refine lv_iload_n hx₀ hb dX11_mile_13 rfl (lv_at hl 1 rfl) ?_
      refine lv_aload_n hx₀ hb dX11_mile_14 rfl (lv_at hl 0 rfl) ?_
      refine va_get (D := (dC, dI)) (ci := 10) (v := .ref aLa) (C := RX11) (T := TX11) (N := 15) hx₀ hb hts inlX11 hown hK hP 0 rfl rfl 0 (by decide) (hts (.fieldLink RX11 10 "BittenStick" "land" "LBittenStick$Land;") wd_15) (fun _ h9 => h9) rfl dX11_mile_15 ?_
      refine va_get (D := (dC, dI)) (ci := 4) (v := .int 0) (C := RX4) (T := TX4) (N := 4) hx₀ hb hts inlX4 hown hK hP 1 rfl rfl 3 (by decide) (hts (.fieldLink RX11 108 "BittenStick$Land" "number" "I") wd_285) (fun x9 h9 => u_same (hts (.sameField "BittenStick$Land" "BittenStick$Text" "number" "I") wd_286) x9 h9) rfl dX11_mile_18 ?_
      refine lv_icmp_ge (tgt := 35) hx₀ hb dX11_mile_21 (by decide) (fun c_3 => ?_) (fun c9 => (lf_x_mile_2 k c_1 c_2 c9).elim)
      refine lv_iconst (v := (-1)) hx₀ hb dX11_mile_35 (by decide +kernel) ?_
      exact W.iret (v := (-1)) hx₀ hb hr (fun t₀ ht hW => ⟨⟨(-1), (), rfl, (lf_x_mile_3 k c_1 c_2 c_3), trivial⟩, hS.F ht⟩) hS.2.2 dX11_mile_36
    · refine lv_bipush (v := (-2)) hx₀ hb dX11_mile_10 (by decide +kernel) ?_
      exact W.iret (v := (-2)) hx₀ hb hr (fun t₀ ht hW => ⟨⟨(-2), (), rfl, (lf_x_mile_4 k c_1 c_2), trivial⟩, hS.F ht⟩) hS.2.2 dX11_mile_12
theorem lf_x_passenger_1 (k : Int32) (c9 : 0 ≤ k ∧ k < (0 : Int32)) : False := by
  (first | omega | (simp only [Int64.le_iff_toInt_le, Int64.lt_iff_toInt_lt, Int32.le_iff_toInt_le, Int32.lt_iff_toInt_lt, ← Int32.toInt_inj, ← Int64.toInt_inj, Int32.toInt_toInt64, (show (0 : Int32).toInt = 0 from by decide), (show (0 : Int64).toInt = 0 from by decide)] at *; omega))
set_option maxHeartbeats 4000000 in
set_option maxRecDepth 100000 in
theorem x_passenger (l : Launch) (dC : Nat → ClassId) (dI : Nat → Nat → Nat) (cI cJ cQ : ClassId) (sz : Nat) (hx : Nat) (k : Int32) (w : Int32) (aLa : Nat) (aPa : Nat) (aGe : Nat) (aFl : Nat) (aTr : Nat) (aBe : Nat) (aLu : Nat) (aLo : Nat) (vSf : Nat) (vSm : Nat) (vCo : Nat) (vSh : Nat) (vPa : Nat) : Met l yX11_passenger (kW yX11_passenger cX11_passenger 3 (some .int)) { frames := 1, cells := 0, slots := 0, locals := 21 } (kPre dC dI cI cJ cQ sz [.ref hx, .int k, .int w] [(hx, .inr (10, [.ref aLa, .ref aPa, .ref aGe, .ref aFl, .ref aTr, .ref aBe, .ref aLu, .ref aLo, .ref vSf, .ref vSm, .ref vCo, .ref vSh, .int 0, .int 0, .int 0])), (aPa, .inr (7, [.ref vPa, .int 0, .int (-1), .int 0]))]) (va_Qi (fun (r : Int32) (_ : Unit) => r = -2) (fun _ _ => True) (va_A [(hx, .inr (10, [.ref aLa, .ref aPa, .ref aGe, .ref aFl, .ref aTr, .ref aBe, .ref aLu, .ref aLo, .ref vSf, .ref vSm, .ref vCo, .ref vSh, .int 0, .int 0, .int 0])), (aPa, .inr (7, [.ref vPa, .int 0, .int (-1), .int 0]))] sz)) 0 0 (va_A [(hx, .inr (10, [.ref aLa, .ref aPa, .ref aGe, .ref aFl, .ref aTr, .ref aBe, .ref aLu, .ref aLo, .ref vSf, .ref vSm, .ref vCo, .ref vSh, .int 0, .int 0, .int 0])), (aPa, .inr (7, [.ref vPa, .int 0, .int (-1), .int 0]))] sz) := by
  refine Met.ofW (cc := cX11_passenger) (maxL := 3) (ret := (some .int)) (by decide) rfl ?_
  intro p₀ e₀ s₀ m₀ args below meth c₀ s₁ B hml hv₀
  obtain ⟨rfl, hsz, hP, hK, hD0, hN⟩ := hv₀
  have hx₀ := B.exec
  have hb := B.bytes
  have hr := B.returns
  have hts := atoms_spec (ws := (kW yX11_passenger cX11_passenger 3 (some .int))) B.pre
  have hts := fun w h => hts w (List.mem_cons_of_mem _ h)
  have hown : s₀.vm.findClass RX11 = some m₀.cls := findClass_of_methodNamed B.named
  have hlocks := B.notSynchronized
  subst hsz
  have hD := hD0.self (sz := s₀.heap.size)
  generalize hAe : va_A [(hx, .inr (10, [.ref aLa, .ref aPa, .ref aGe, .ref aFl, .ref aTr, .ref aBe, .ref aLu, .ref aLo, .ref vSf, .ref vSm, .ref vCo, .ref vSh, .int 0, .int 0, .int 0])), (aPa, .inr (7, [.ref vPa, .int 0, .int (-1), .int 0]))] s₀.heap.size = A at hD ⊢
  have hA : ∀ q : Nat, s₀.heap.size ≤ q → A q := fun q h => by rw [← hAe]; exact Or.inr h
  have hS : va_S A s₀.heap s₀.heap [] := va_S.rf
  have hP : va_P (dC, dI) vwCl [(hx, .inr (10, [.ref aLa, .ref aPa, .ref aGe, .ref aFl, .ref aTr, .ref aBe, .ref aLu, .ref aLo, .ref vSf, .ref vSm, .ref vCo, .ref vSh, .int 0, .int 0, .int 0])), (aPa, .inr (7, [.ref vPa, .int 0, .int (-1), .int 0]))] s₀.heap := hP
  have hl := lv_entry ([.ref hx, .int k, .int w]) (n := 3) (Nat.le_of_ble_eq_true rfl)
  rw [lg_entry_eq]
  generalize (lg_sl ([.ref hx, .int k, .int w]) ++ List.replicate (3 - (lg_sl ([.ref hx, .int k, .int w])).length) Slot.unset).toArray = ls at hl ⊢
  have hl : lv_has ls 3 [(0, .ref hx), (1, .int k), (2, .int w)] := hl
  obtain ⟨H, hH⟩ : ∃ z : Heap, z = s₀.heap := ⟨_, rfl⟩
  rw [← hH] at hP
  have hS : va_S A s₀.heap H [] := by rw [hH]; exact hS
  refine k_heap hH ?_
  have hD : va_D A [(hx, .inr (10, [.ref aLa, .ref aPa, .ref aGe, .ref aFl, .ref aTr, .ref aBe, .ref aLu, .ref aLo, .ref vSf, .ref vSm, .ref vCo, .ref vSh, .int 0, .int 0, .int 0])), (aPa, .inr (7, [.ref vPa, .int 0, .int (-1), .int 0]))] := hD
  obtain ⟨locs, hlo⟩ : ∃ z : List Loc, z = [] := ⟨_, rfl⟩
  rw [← hlo] at hS ⊢
  clear hlo hH hAe hD0
  refine lv_aload_n hx₀ hb dX11_passenger_0 rfl (lv_at hl 0 rfl) ?_
  refine va_get (D := (dC, dI)) (ci := 10) (v := .ref aPa) (C := RX11) (T := TX11) (N := 15) hx₀ hb hts inlX11 hown hK hP 0 rfl rfl 1 (by decide) (hts (.fieldLink RX11 19 "BittenStick" "passengers" "LBittenStick$Passengers;") wd_19) (fun _ h9 => h9) rfl dX11_passenger_1 ?_
  refine lv_iload_n hx₀ hb dX11_passenger_4 rfl (lv_at hl 1 rfl) ?_
  have hPc := hP.sub (ws' := [(aPa, .inr (7, [.ref vPa, .int 0, .int (-1), .int 0]))]) [1] rfl
  have hDc := hD.sub (ws' := [(aPa, .inr (7, [.ref vPa, .int 0, .int (-1), .int 0]))]) [1] (by decide) rfl
  have hFc := va_free (wc := [(aPa, .inr (7, [.ref vPa, .int 0, .int (-1), .int 0]))]) hD hS hA [1] rfl
  refine va_calli (va_runU (As := [.int k]) (rest := []) ⟨hx₀, hb, hml, hown, hts⟩ (c_tHas_X7 l dC dI cI cJ cQ H.size aPa k vPa 0 (-1) 0) (va_cwU 1 hts (kGU wd_307 wd_303 wd_304 wd_305 wd_306 wd_57) rfl rfl rfl rfl (by decide +kernel) ⟨Nat.le_of_ble_eq_true rfl, Nat.le_of_ble_eq_true rfl⟩) (k_preV (ci := 7) (q0 := 0) hK hPc hDc hN rfl rfl) rfl rfl hl.1 rfl (lv_room (Nat.le_of_ble_eq_true rfl)) dX11_passenger_5 ⟨by decide +kernel, by decide +kernel⟩) hS (fun q _ h => hFc q h) hFc (fun r_1 u₀ t₀ H1 locs ht hvm hw hB hz1 hk1 hS => ?_)
  obtain ⟨hP1, hK1, hD1⟩ := hB
  rw [ht] at hP1
  obtain ⟨hP, hD⟩ := va_join (wr := [(hx, .inr (10, [.ref aLa, .ref aPa, .ref aGe, .ref aFl, .ref aTr, .ref aBe, .ref aLu, .ref aLo, .ref vSf, .ref vSm, .ref vCo, .ref vSh, .int 0, .int 0, .int 0]))]) (w1 := [(aPa, .inr (7, [.ref vPa, .int 0, .int (-1), .int 0]))]) hP hD [1] [0] rfl rfl (by decide) (by decide) hk1 hFc hP1 hD1
  generalize H1 = H at hP hS ⊢
  have hP : va_P (dC, dI) vwCl [(hx, .inr (10, [.ref aLa, .ref aPa, .ref aGe, .ref aFl, .ref aTr, .ref aBe, .ref aLu, .ref aLo, .ref vSf, .ref vSm, .ref vCo, .ref vSh, .int 0, .int 0, .int 0])), (aPa, .inr (7, [.ref vPa, .int 0, .int (-1), .int 0]))] H := hP
  have hD : va_D A [(hx, .inr (10, [.ref aLa, .ref aPa, .ref aGe, .ref aFl, .ref aTr, .ref aBe, .ref aLu, .ref aLo, .ref vSf, .ref vSm, .ref vCo, .ref vSh, .int 0, .int 0, .int 0])), (aPa, .inr (7, [.ref vPa, .int 0, .int (-1), .int 0]))] := hD
  try dsimp only at hw
  rw [if_neg (fun c9 => lf_x_passenger_1 k c9)] at hw
  refine k_topi (v := 0) hw ?_
  refine lv_if_eq (tgt := 20) hx₀ hb dX11_passenger_8 (by decide) (fun _ => ?_) (fun c9 => absurd (by decide +kernel) c9)
  refine lv_bipush (v := (-2)) hx₀ hb dX11_passenger_20 (by decide +kernel) ?_
  exact W.iret (v := (-2)) hx₀ hb hr (fun t₀ ht hW => ⟨⟨(-2), (), rfl, (by decide +kernel), trivial⟩, hS.F ht⟩) hS.2.2 dX11_passenger_22
theorem lf_x_goose_1 (k : Int32) (c9 : 0 ≤ k ∧ k < (0 : Int32)) : False := by
  (first | omega | (simp only [Int64.le_iff_toInt_le, Int64.lt_iff_toInt_lt, Int32.le_iff_toInt_le, Int32.lt_iff_toInt_lt, ← Int32.toInt_inj, ← Int64.toInt_inj, Int32.toInt_toInt64, (show (0 : Int32).toInt = 0 from by decide), (show (0 : Int64).toInt = 0 from by decide)] at *; omega))
set_option maxHeartbeats 4000000 in
set_option maxRecDepth 100000 in
theorem x_goose (l : Launch) (dC : Nat → ClassId) (dI : Nat → Nat → Nat) (cI cJ cQ : ClassId) (sz : Nat) (hx : Nat) (k : Int32) (w : Int32) (aLa : Nat) (aPa : Nat) (aGe : Nat) (aFl : Nat) (aTr : Nat) (aBe : Nat) (aLu : Nat) (aLo : Nat) (vSf : Nat) (vSm : Nat) (vCo : Nat) (vSh : Nat) (vGe : Nat) : Met l yX11_goose (kW yX11_goose cX11_goose 3 (some .int)) { frames := 1, cells := 0, slots := 0, locals := 21 } (kPre dC dI cI cJ cQ sz [.ref hx, .int k, .int w] [(hx, .inr (10, [.ref aLa, .ref aPa, .ref aGe, .ref aFl, .ref aTr, .ref aBe, .ref aLu, .ref aLo, .ref vSf, .ref vSm, .ref vCo, .ref vSh, .int 0, .int 0, .int 0])), (aGe, .inr (2, [.ref vGe, .int 0, .int (-1), .int 0]))]) (va_Qi (fun (r : Int32) (_ : Unit) => r = -2) (fun _ _ => True) (va_A [(hx, .inr (10, [.ref aLa, .ref aPa, .ref aGe, .ref aFl, .ref aTr, .ref aBe, .ref aLu, .ref aLo, .ref vSf, .ref vSm, .ref vCo, .ref vSh, .int 0, .int 0, .int 0])), (aGe, .inr (2, [.ref vGe, .int 0, .int (-1), .int 0]))] sz)) 0 0 (va_A [(hx, .inr (10, [.ref aLa, .ref aPa, .ref aGe, .ref aFl, .ref aTr, .ref aBe, .ref aLu, .ref aLo, .ref vSf, .ref vSm, .ref vCo, .ref vSh, .int 0, .int 0, .int 0])), (aGe, .inr (2, [.ref vGe, .int 0, .int (-1), .int 0]))] sz) := by
  refine Met.ofW (cc := cX11_goose) (maxL := 3) (ret := (some .int)) (by decide) rfl ?_
  intro p₀ e₀ s₀ m₀ args below meth c₀ s₁ B hml hv₀
  obtain ⟨rfl, hsz, hP, hK, hD0, hN⟩ := hv₀
  have hx₀ := B.exec
  have hb := B.bytes
  have hr := B.returns
  have hts := atoms_spec (ws := (kW yX11_goose cX11_goose 3 (some .int))) B.pre
  have hts := fun w h => hts w (List.mem_cons_of_mem _ h)
  have hown : s₀.vm.findClass RX11 = some m₀.cls := findClass_of_methodNamed B.named
  have hlocks := B.notSynchronized
  subst hsz
  have hD := hD0.self (sz := s₀.heap.size)
  generalize hAe : va_A [(hx, .inr (10, [.ref aLa, .ref aPa, .ref aGe, .ref aFl, .ref aTr, .ref aBe, .ref aLu, .ref aLo, .ref vSf, .ref vSm, .ref vCo, .ref vSh, .int 0, .int 0, .int 0])), (aGe, .inr (2, [.ref vGe, .int 0, .int (-1), .int 0]))] s₀.heap.size = A at hD ⊢
  have hA : ∀ q : Nat, s₀.heap.size ≤ q → A q := fun q h => by rw [← hAe]; exact Or.inr h
  have hS : va_S A s₀.heap s₀.heap [] := va_S.rf
  have hP : va_P (dC, dI) vwCl [(hx, .inr (10, [.ref aLa, .ref aPa, .ref aGe, .ref aFl, .ref aTr, .ref aBe, .ref aLu, .ref aLo, .ref vSf, .ref vSm, .ref vCo, .ref vSh, .int 0, .int 0, .int 0])), (aGe, .inr (2, [.ref vGe, .int 0, .int (-1), .int 0]))] s₀.heap := hP
  have hl := lv_entry ([.ref hx, .int k, .int w]) (n := 3) (Nat.le_of_ble_eq_true rfl)
  rw [lg_entry_eq]
  generalize (lg_sl ([.ref hx, .int k, .int w]) ++ List.replicate (3 - (lg_sl ([.ref hx, .int k, .int w])).length) Slot.unset).toArray = ls at hl ⊢
  have hl : lv_has ls 3 [(0, .ref hx), (1, .int k), (2, .int w)] := hl
  obtain ⟨H, hH⟩ : ∃ z : Heap, z = s₀.heap := ⟨_, rfl⟩
  rw [← hH] at hP
  have hS : va_S A s₀.heap H [] := by rw [hH]; exact hS
  refine k_heap hH ?_
  have hD : va_D A [(hx, .inr (10, [.ref aLa, .ref aPa, .ref aGe, .ref aFl, .ref aTr, .ref aBe, .ref aLu, .ref aLo, .ref vSf, .ref vSm, .ref vCo, .ref vSh, .int 0, .int 0, .int 0])), (aGe, .inr (2, [.ref vGe, .int 0, .int (-1), .int 0]))] := hD
  obtain ⟨locs, hlo⟩ : ∃ z : List Loc, z = [] := ⟨_, rfl⟩
  rw [← hlo] at hS ⊢
  clear hlo hH hAe hD0
  refine lv_aload_n hx₀ hb dX11_goose_0 rfl (lv_at hl 0 rfl) ?_
  refine va_get (D := (dC, dI)) (ci := 10) (v := .ref aGe) (C := RX11) (T := TX11) (N := 15) hx₀ hb hts inlX11 hown hK hP 0 rfl rfl 2 (by decide) (hts (.fieldLink RX11 26 "BittenStick" "geese" "LBittenStick$Geese;") wd_23) (fun _ h9 => h9) rfl dX11_goose_1 ?_
  refine lv_iload_n hx₀ hb dX11_goose_4 rfl (lv_at hl 1 rfl) ?_
  have hPc := hP.sub (ws' := [(aGe, .inr (2, [.ref vGe, .int 0, .int (-1), .int 0]))]) [1] rfl
  have hDc := hD.sub (ws' := [(aGe, .inr (2, [.ref vGe, .int 0, .int (-1), .int 0]))]) [1] (by decide) rfl
  have hFc := va_free (wc := [(aGe, .inr (2, [.ref vGe, .int 0, .int (-1), .int 0]))]) hD hS hA [1] rfl
  refine va_calli (va_runU (As := [.int k]) (rest := []) ⟨hx₀, hb, hml, hown, hts⟩ (c_tHas_X2 l dC dI cI cJ cQ H.size aGe k vGe 0 (-1) 0) (va_cwU 1 hts (kGU wd_307 wd_328 wd_329 wd_330 wd_306 wd_57) rfl rfl rfl rfl (by decide +kernel) ⟨Nat.le_of_ble_eq_true rfl, Nat.le_of_ble_eq_true rfl⟩) (k_preV (ci := 2) (q0 := 0) hK hPc hDc hN rfl rfl) rfl rfl hl.1 rfl (lv_room (Nat.le_of_ble_eq_true rfl)) dX11_goose_5 ⟨by decide +kernel, by decide +kernel⟩) hS (fun q _ h => hFc q h) hFc (fun r_1 u₀ t₀ H1 locs ht hvm hw hB hz1 hk1 hS => ?_)
  obtain ⟨hP1, hK1, hD1⟩ := hB
  rw [ht] at hP1
  obtain ⟨hP, hD⟩ := va_join (wr := [(hx, .inr (10, [.ref aLa, .ref aPa, .ref aGe, .ref aFl, .ref aTr, .ref aBe, .ref aLu, .ref aLo, .ref vSf, .ref vSm, .ref vCo, .ref vSh, .int 0, .int 0, .int 0]))]) (w1 := [(aGe, .inr (2, [.ref vGe, .int 0, .int (-1), .int 0]))]) hP hD [1] [0] rfl rfl (by decide) (by decide) hk1 hFc hP1 hD1
  generalize H1 = H at hP hS ⊢
  have hP : va_P (dC, dI) vwCl [(hx, .inr (10, [.ref aLa, .ref aPa, .ref aGe, .ref aFl, .ref aTr, .ref aBe, .ref aLu, .ref aLo, .ref vSf, .ref vSm, .ref vCo, .ref vSh, .int 0, .int 0, .int 0])), (aGe, .inr (2, [.ref vGe, .int 0, .int (-1), .int 0]))] H := hP
  have hD : va_D A [(hx, .inr (10, [.ref aLa, .ref aPa, .ref aGe, .ref aFl, .ref aTr, .ref aBe, .ref aLu, .ref aLo, .ref vSf, .ref vSm, .ref vCo, .ref vSh, .int 0, .int 0, .int 0])), (aGe, .inr (2, [.ref vGe, .int 0, .int (-1), .int 0]))] := hD
  try dsimp only at hw
  rw [if_neg (fun c9 => lf_x_goose_1 k c9)] at hw
  refine k_topi (v := 0) hw ?_
  refine lv_if_eq (tgt := 20) hx₀ hb dX11_goose_8 (by decide) (fun _ => ?_) (fun c9 => absurd (by decide +kernel) c9)
  refine lv_bipush (v := (-2)) hx₀ hb dX11_goose_20 (by decide +kernel) ?_
  exact W.iret (v := (-2)) hx₀ hb hr (fun t₀ ht hW => ⟨⟨(-2), (), rfl, (by decide +kernel), trivial⟩, hS.F ht⟩) hS.2.2 dX11_goose_22
set_option maxHeartbeats 4000000 in
set_option maxRecDepth 100000 in
theorem x_flight (l : Launch) (dC : Nat → ClassId) (dI : Nat → Nat → Nat) (cI cJ cQ : ClassId) (sz : Nat) (hx : Nat) (p : Int32) (le : Int32) (ri : Int32) (hh : Int32) (aLa : Nat) (aPa : Nat) (aGe : Nat) (aFl : Nat) (aTr : Nat) (aBe : Nat) (aLu : Nat) (aLo : Nat) (vSf : Nat) (vSm : Nat) (vCo : Nat) (vSh : Nat) (vFl : Nat) : Met l yX11_flight (kW yX11_flight cX11_flight 5 (some .int)) { frames := 1, cells := 0, slots := 0, locals := 24 } (kPre dC dI cI cJ cQ sz [.ref hx, .int p, .int le, .int ri, .int hh] [(hx, .inr (10, [.ref aLa, .ref aPa, .ref aGe, .ref aFl, .ref aTr, .ref aBe, .ref aLu, .ref aLo, .ref vSf, .ref vSm, .ref vCo, .ref vSh, .int 0, .int 0, .int 0])), (aFl, .inr (1, [.ref vFl, .int 0])), (vFl, .inl (cI, 32, .inl (fun _ => 0)))]) (va_Qi (fun (r : Int32) (_ : Unit) => r = if 0 ≤ p ∧ p ≤ 7 ∧ 0 ≤ le ∧ le ≤ 7 ∧ 0 ≤ ri ∧ ri ≤ 7 ∧ ¬ le = ri ∧ 1 ≤ hh ∧ hh ≤ 9 then 1 else -2) (fun _ _ => True) (va_A [(hx, .inr (10, [.ref aLa, .ref aPa, .ref aGe, .ref aFl, .ref aTr, .ref aBe, .ref aLu, .ref aLo, .ref vSf, .ref vSm, .ref vCo, .ref vSh, .int 0, .int 0, .int 0])), (aFl, .inr (1, [.ref vFl, .int 0])), (vFl, .inl (cI, 32, .inl (fun _ => 0)))] sz)) 0 0 (va_A [(hx, .inr (10, [.ref aLa, .ref aPa, .ref aGe, .ref aFl, .ref aTr, .ref aBe, .ref aLu, .ref aLo, .ref vSf, .ref vSm, .ref vCo, .ref vSh, .int 0, .int 0, .int 0])), (aFl, .inr (1, [.ref vFl, .int 0])), (vFl, .inl (cI, 32, .inl (fun _ => 0)))] sz) := by
  refine Met.ofW (cc := cX11_flight) (maxL := 5) (ret := (some .int)) (by decide) rfl ?_
  intro p₀ e₀ s₀ m₀ args below meth c₀ s₁ B hml hv₀
  obtain ⟨rfl, hsz, hP, hK, hD0, hN⟩ := hv₀
  have hx₀ := B.exec
  have hb := B.bytes
  have hr := B.returns
  have hts := atoms_spec (ws := (kW yX11_flight cX11_flight 5 (some .int))) B.pre
  have hts := fun w h => hts w (List.mem_cons_of_mem _ h)
  have hown : s₀.vm.findClass RX11 = some m₀.cls := findClass_of_methodNamed B.named
  have hlocks := B.notSynchronized
  subst hsz
  have hD := hD0.self (sz := s₀.heap.size)
  generalize hAe : va_A [(hx, .inr (10, [.ref aLa, .ref aPa, .ref aGe, .ref aFl, .ref aTr, .ref aBe, .ref aLu, .ref aLo, .ref vSf, .ref vSm, .ref vCo, .ref vSh, .int 0, .int 0, .int 0])), (aFl, .inr (1, [.ref vFl, .int 0])), (vFl, .inl (cI, 32, .inl (fun _ => 0)))] s₀.heap.size = A at hD ⊢
  have hA : ∀ q : Nat, s₀.heap.size ≤ q → A q := fun q h => by rw [← hAe]; exact Or.inr h
  have hS : va_S A s₀.heap s₀.heap [] := va_S.rf
  have hP : va_P (dC, dI) vwCl [(hx, .inr (10, [.ref aLa, .ref aPa, .ref aGe, .ref aFl, .ref aTr, .ref aBe, .ref aLu, .ref aLo, .ref vSf, .ref vSm, .ref vCo, .ref vSh, .int 0, .int 0, .int 0])), (aFl, .inr (1, [.ref vFl, .int 0])), (vFl, .inl (cI, 32, .inl (fun _ => 0)))] s₀.heap := hP
  have hl := lv_entry ([.ref hx, .int p, .int le, .int ri, .int hh]) (n := 5) (Nat.le_of_ble_eq_true rfl)
  rw [lg_entry_eq]
  generalize (lg_sl ([.ref hx, .int p, .int le, .int ri, .int hh]) ++ List.replicate (5 - (lg_sl ([.ref hx, .int p, .int le, .int ri, .int hh])).length) Slot.unset).toArray = ls at hl ⊢
  have hl : lv_has ls 5 [(0, .ref hx), (1, .int p), (2, .int le), (3, .int ri), (4, .int hh)] := hl
  obtain ⟨H, hH⟩ : ∃ z : Heap, z = s₀.heap := ⟨_, rfl⟩
  rw [← hH] at hP
  have hS : va_S A s₀.heap H [] := by rw [hH]; exact hS
  refine k_heap hH ?_
  have hD : va_D A [(hx, .inr (10, [.ref aLa, .ref aPa, .ref aGe, .ref aFl, .ref aTr, .ref aBe, .ref aLu, .ref aLo, .ref vSf, .ref vSm, .ref vCo, .ref vSh, .int 0, .int 0, .int 0])), (aFl, .inr (1, [.ref vFl, .int 0])), (vFl, .inl (cI, 32, .inl (fun _ => 0)))] := hD
  obtain ⟨locs, hlo⟩ : ∃ z : List Loc, z = [] := ⟨_, rfl⟩
  rw [← hlo] at hS ⊢
  clear hlo hH hAe hD0
  refine lv_aload_n hx₀ hb dX11_flight_0 rfl (lv_at hl 0 rfl) ?_
  refine va_get (D := (dC, dI)) (ci := 10) (v := .ref aFl) (C := RX11) (T := TX11) (N := 15) hx₀ hb hts inlX11 hown hK hP 0 rfl rfl 3 (by decide) (hts (.fieldLink RX11 33 "BittenStick" "flights" "LBittenStick$Flights;") wd_27) (fun _ h9 => h9) rfl dX11_flight_1 ?_
  refine lv_iload_n hx₀ hb dX11_flight_4 rfl (lv_at hl 1 rfl) ?_
  refine lv_iload_n hx₀ hb dX11_flight_5 rfl (lv_at hl 2 rfl) ?_
  refine lv_iload_n hx₀ hb dX11_flight_6 rfl (lv_at hl 3 rfl) ?_
  refine lv_iload hx₀ hb dX11_flight_7 (lv_at hl 4 rfl) ?_
  have hPc := hP.sub (ws' := [(aFl, .inr (1, [.ref vFl, .int 0])), (vFl, .inl (cI, 32, .inl (fun _ => 0)))]) [1, 2] rfl
  have hDc := hD.sub (ws' := [(aFl, .inr (1, [.ref vFl, .int 0])), (vFl, .inl (cI, 32, .inl (fun _ => 0)))]) [1, 2] (by decide) rfl
  have hFc := va_free (wc := [(aFl, .inr (1, [.ref vFl, .int 0])), (vFl, .inl (cI, 32, .inl (fun _ => 0)))]) hD hS hA [1, 2] rfl
  refine va_calli (va_runV (As := [.int p, .int le, .int ri, .int hh]) (rest := []) ⟨hx₀, hb, hml, hown, hts⟩ (c_append l dC dI cI cJ cQ H.size aFl p le ri hh vFl) (cwV 4 hts (kGV wd_356 wd_353 wd_354 wd_355 wd_26) rfl rfl rfl (by decide +kernel) ⟨Nat.le_of_ble_eq_true rfl, Nat.le_of_ble_eq_true rfl⟩) (k_preV (ci := 1) (q0 := 0) hK hPc hDc hN rfl rfl) rfl rfl hl.1 rfl (lv_room (Nat.le_of_ble_eq_true rfl)) dX11_flight_9 ⟨by decide +kernel, by decide +kernel⟩) hS (fun q _ h => hFc q h) hFc (fun r_1 u₀ t₀ H1 locs ht hvm hw hB hz1 hk1 hS => ?_)
  obtain ⟨hP, hD⟩ := va_join (wr := [(hx, .inr (10, [.ref aLa, .ref aPa, .ref aGe, .ref aFl, .ref aTr, .ref aBe, .ref aLu, .ref aLo, .ref vSf, .ref vSm, .ref vCo, .ref vSh, .int 0, .int 0, .int 0]))]) (w1 := []) hP hD [1, 2] [0] rfl rfl (by decide) (by decide) hk1 hFc (k_nilP _) (k_nilD _)
  generalize H1 = H at hP hS ⊢
  have hP : va_P (dC, dI) vwCl [(hx, .inr (10, [.ref aLa, .ref aPa, .ref aGe, .ref aFl, .ref aTr, .ref aBe, .ref aLu, .ref aLo, .ref vSf, .ref vSm, .ref vCo, .ref vSh, .int 0, .int 0, .int 0]))] H := hP
  have hD : va_D A [(hx, .inr (10, [.ref aLa, .ref aPa, .ref aGe, .ref aFl, .ref aTr, .ref aBe, .ref aLu, .ref aLo, .ref vSf, .ref vSm, .ref vCo, .ref vSh, .int 0, .int 0, .int 0]))] := hD
  try dsimp only at hw
  refine k_topi (v := if 0 ≤ p ∧ p ≤ 7 ∧ 0 ≤ le ∧ le ≤ 7 ∧ 0 ≤ ri ∧ ri ≤ 7 ∧ ¬ le = ri ∧ 1 ≤ hh ∧ hh ≤ 9 then 1 else -2) hw ?_
  exact W.iret (v := if 0 ≤ p ∧ p ≤ 7 ∧ 0 ≤ le ∧ le ≤ 7 ∧ 0 ≤ ri ∧ ri ≤ 7 ∧ ¬ le = ri ∧ 1 ≤ hh ∧ hh ≤ 9 then 1 else -2) hx₀ hb hr (fun t₀ ht hW => ⟨⟨if 0 ≤ p ∧ p ≤ 7 ∧ 0 ≤ le ∧ le ≤ 7 ∧ 0 ≤ ri ∧ ri ≤ 7 ∧ ¬ le = ri ∧ 1 ≤ hh ∧ hh ≤ 9 then 1 else -2, (), rfl, rfl, trivial⟩, hS.F ht⟩) hS.2.2 dX11_flight_12
set_option maxHeartbeats 4000000 in
set_option maxRecDepth 100000 in
theorem x_back (l : Launch) (dC : Nat → ClassId) (dI : Nat → Nat → Nat) (cI cJ cQ : ClassId) (sz : Nat) (hx : Nat) (aLa : Nat) (aPa : Nat) (aGe : Nat) (aFl : Nat) (aTr : Nat) (aBe : Nat) (aLu : Nat) (aLo : Nat) (vSf : Nat) (vSm : Nat) (vCo : Nat) (vSh : Nat) (vFl : Nat) : Met l yX11_back (kW yX11_back cX11_back 1 (some .int)) { frames := 0, cells := 0, slots := 0, locals := 0 } (kPre dC dI cI cJ cQ sz [.ref hx] [(hx, .inr (10, [.ref aLa, .ref aPa, .ref aGe, .ref aFl, .ref aTr, .ref aBe, .ref aLu, .ref aLo, .ref vSf, .ref vSm, .ref vCo, .ref vSh, .int 0, .int 0, .int 0])), (aFl, .inr (1, [.ref vFl, .int 0]))]) (va_Qi (fun (r : Int32) (_ : Unit) => r = -3) (fun _ _ => True) (va_A [(hx, .inr (10, [.ref aLa, .ref aPa, .ref aGe, .ref aFl, .ref aTr, .ref aBe, .ref aLu, .ref aLo, .ref vSf, .ref vSm, .ref vCo, .ref vSh, .int 0, .int 0, .int 0])), (aFl, .inr (1, [.ref vFl, .int 0]))] sz)) 0 0 (va_A [(hx, .inr (10, [.ref aLa, .ref aPa, .ref aGe, .ref aFl, .ref aTr, .ref aBe, .ref aLu, .ref aLo, .ref vSf, .ref vSm, .ref vCo, .ref vSh, .int 0, .int 0, .int 0])), (aFl, .inr (1, [.ref vFl, .int 0]))] sz) := by
  refine Met.ofW (cc := cX11_back) (maxL := 1) (ret := (some .int)) (by decide) rfl ?_
  intro p₀ e₀ s₀ m₀ args below meth c₀ s₁ B hml hv₀
  obtain ⟨rfl, hsz, hP, hK, hD0, hN⟩ := hv₀
  have hx₀ := B.exec
  have hb := B.bytes
  have hr := B.returns
  have hts := atoms_spec (ws := (kW yX11_back cX11_back 1 (some .int))) B.pre
  have hts := fun w h => hts w (List.mem_cons_of_mem _ h)
  have hown : s₀.vm.findClass RX11 = some m₀.cls := findClass_of_methodNamed B.named
  have hlocks := B.notSynchronized
  subst hsz
  have hD := hD0.self (sz := s₀.heap.size)
  generalize hAe : va_A [(hx, .inr (10, [.ref aLa, .ref aPa, .ref aGe, .ref aFl, .ref aTr, .ref aBe, .ref aLu, .ref aLo, .ref vSf, .ref vSm, .ref vCo, .ref vSh, .int 0, .int 0, .int 0])), (aFl, .inr (1, [.ref vFl, .int 0]))] s₀.heap.size = A at hD ⊢
  have hA : ∀ q : Nat, s₀.heap.size ≤ q → A q := fun q h => by rw [← hAe]; exact Or.inr h
  have hS : va_S A s₀.heap s₀.heap [] := va_S.rf
  have hP : va_P (dC, dI) vwCl [(hx, .inr (10, [.ref aLa, .ref aPa, .ref aGe, .ref aFl, .ref aTr, .ref aBe, .ref aLu, .ref aLo, .ref vSf, .ref vSm, .ref vCo, .ref vSh, .int 0, .int 0, .int 0])), (aFl, .inr (1, [.ref vFl, .int 0]))] s₀.heap := hP
  have hl := lv_entry ([.ref hx]) (n := 1) (Nat.le_of_ble_eq_true rfl)
  rw [lg_entry_eq]
  generalize (lg_sl ([.ref hx]) ++ List.replicate (1 - (lg_sl ([.ref hx])).length) Slot.unset).toArray = ls at hl ⊢
  have hl : lv_has ls 1 [(0, .ref hx)] := hl
  obtain ⟨H, hH⟩ : ∃ z : Heap, z = s₀.heap := ⟨_, rfl⟩
  rw [← hH] at hP
  have hS : va_S A s₀.heap H [] := by rw [hH]; exact hS
  refine k_heap hH ?_
  have hD : va_D A [(hx, .inr (10, [.ref aLa, .ref aPa, .ref aGe, .ref aFl, .ref aTr, .ref aBe, .ref aLu, .ref aLo, .ref vSf, .ref vSm, .ref vCo, .ref vSh, .int 0, .int 0, .int 0])), (aFl, .inr (1, [.ref vFl, .int 0]))] := hD
  obtain ⟨locs, hlo⟩ : ∃ z : List Loc, z = [] := ⟨_, rfl⟩
  rw [← hlo] at hS ⊢
  clear hlo hH hAe hD0
  refine lv_aload_n hx₀ hb dX11_back_0 rfl (lv_at hl 0 rfl) ?_
  refine va_get (D := (dC, dI)) (ci := 10) (v := .ref aFl) (C := RX11) (T := TX11) (N := 15) hx₀ hb hts inlX11 hown hK hP 0 rfl rfl 3 (by decide) (hts (.fieldLink RX11 33 "BittenStick" "flights" "LBittenStick$Flights;") wd_27) (fun _ h9 => h9) rfl dX11_back_1 ?_
  refine va_get (D := (dC, dI)) (ci := 1) (v := .int 0) (C := RX1) (T := TX1) (N := 2) hx₀ hb hts inlX1 hown hK hP 1 rfl rfl 1 (by decide) (hts (.fieldLink RX11 128 "BittenStick$Flights" "number" "I") wd_369) (fun _ h9 => h9) rfl dX11_back_4 ?_
  refine lv_if_ne (tgt := 13) hx₀ hb dX11_back_7 (by decide) (fun c9 => absurd (by decide +kernel) c9) (fun _ => ?_)
  refine lv_bipush (v := (-3)) hx₀ hb dX11_back_10 (by decide +kernel) ?_
  exact W.iret (v := (-3)) hx₀ hb hr (fun t₀ ht hW => ⟨⟨(-3), (), rfl, (by decide +kernel), trivial⟩, hS.F ht⟩) hS.2.2 dX11_back_12
theorem lf_x_read_1 (s : Int32) (c_2 : s = 0) : ((-11) : Int32) = if 0 ≤ s ∧ s ≤ 3 then -11 else -2 := by
  repeat first | rfl | rw [if_pos (by (first | omega | (simp only [Int64.le_iff_toInt_le, Int64.lt_iff_toInt_lt, Int32.le_iff_toInt_le, Int32.lt_iff_toInt_lt, ← Int32.toInt_inj, ← Int64.toInt_inj, Int32.toInt_toInt64, (show (-11 : Int32).toInt = -11 from by decide), (show (-11 : Int64).toInt = -11 from by decide), (show (-2 : Int32).toInt = -2 from by decide), (show (-2 : Int64).toInt = -2 from by decide), (show (0 : Int32).toInt = 0 from by decide), (show (0 : Int64).toInt = 0 from by decide), (show (3 : Int32).toInt = 3 from by decide), (show (3 : Int64).toInt = 3 from by decide)] at *; omega)))] | rw [if_neg (by (first | omega | (simp only [Int64.le_iff_toInt_le, Int64.lt_iff_toInt_lt, Int32.le_iff_toInt_le, Int32.lt_iff_toInt_lt, ← Int32.toInt_inj, ← Int64.toInt_inj, Int32.toInt_toInt64, (show (-11 : Int32).toInt = -11 from by decide), (show (-11 : Int64).toInt = -11 from by decide), (show (-2 : Int32).toInt = -2 from by decide), (show (-2 : Int64).toInt = -2 from by decide), (show (0 : Int32).toInt = 0 from by decide), (show (0 : Int64).toInt = 0 from by decide), (show (3 : Int32).toInt = 3 from by decide), (show (3 : Int64).toInt = 3 from by decide)] at *; omega)))]
theorem lf_x_read_2 (s : Int32) (c_2 : ¬ (s = 0)) (c_4 : s = 1) : ((-11) : Int32) = if 0 ≤ s ∧ s ≤ 3 then -11 else -2 := by
  repeat first | rfl | rw [if_pos (by (first | omega | (simp only [Int64.le_iff_toInt_le, Int64.lt_iff_toInt_lt, Int32.le_iff_toInt_le, Int32.lt_iff_toInt_lt, ← Int32.toInt_inj, ← Int64.toInt_inj, Int32.toInt_toInt64, (show (-11 : Int32).toInt = -11 from by decide), (show (-11 : Int64).toInt = -11 from by decide), (show (-2 : Int32).toInt = -2 from by decide), (show (-2 : Int64).toInt = -2 from by decide), (show (0 : Int32).toInt = 0 from by decide), (show (0 : Int64).toInt = 0 from by decide), (show (1 : Int32).toInt = 1 from by decide), (show (1 : Int64).toInt = 1 from by decide), (show (3 : Int32).toInt = 3 from by decide), (show (3 : Int64).toInt = 3 from by decide)] at *; omega)))] | rw [if_neg (by (first | omega | (simp only [Int64.le_iff_toInt_le, Int64.lt_iff_toInt_lt, Int32.le_iff_toInt_le, Int32.lt_iff_toInt_lt, ← Int32.toInt_inj, ← Int64.toInt_inj, Int32.toInt_toInt64, (show (-11 : Int32).toInt = -11 from by decide), (show (-11 : Int64).toInt = -11 from by decide), (show (-2 : Int32).toInt = -2 from by decide), (show (-2 : Int64).toInt = -2 from by decide), (show (0 : Int32).toInt = 0 from by decide), (show (0 : Int64).toInt = 0 from by decide), (show (1 : Int32).toInt = 1 from by decide), (show (1 : Int64).toInt = 1 from by decide), (show (3 : Int32).toInt = 3 from by decide), (show (3 : Int64).toInt = 3 from by decide)] at *; omega)))]
theorem lf_x_read_3 (s : Int32) (c_2 : ¬ (s = 0)) (c_4 : ¬ (s = 1)) (c_6 : s = 2) : ((-11) : Int32) = if 0 ≤ s ∧ s ≤ 3 then -11 else -2 := by
  repeat first | rfl | rw [if_pos (by (first | omega | (simp only [Int64.le_iff_toInt_le, Int64.lt_iff_toInt_lt, Int32.le_iff_toInt_le, Int32.lt_iff_toInt_lt, ← Int32.toInt_inj, ← Int64.toInt_inj, Int32.toInt_toInt64, (show (-11 : Int32).toInt = -11 from by decide), (show (-11 : Int64).toInt = -11 from by decide), (show (-2 : Int32).toInt = -2 from by decide), (show (-2 : Int64).toInt = -2 from by decide), (show (0 : Int32).toInt = 0 from by decide), (show (0 : Int64).toInt = 0 from by decide), (show (1 : Int32).toInt = 1 from by decide), (show (1 : Int64).toInt = 1 from by decide), (show (2 : Int32).toInt = 2 from by decide), (show (2 : Int64).toInt = 2 from by decide), (show (3 : Int32).toInt = 3 from by decide), (show (3 : Int64).toInt = 3 from by decide)] at *; omega)))] | rw [if_neg (by (first | omega | (simp only [Int64.le_iff_toInt_le, Int64.lt_iff_toInt_lt, Int32.le_iff_toInt_le, Int32.lt_iff_toInt_lt, ← Int32.toInt_inj, ← Int64.toInt_inj, Int32.toInt_toInt64, (show (-11 : Int32).toInt = -11 from by decide), (show (-11 : Int64).toInt = -11 from by decide), (show (-2 : Int32).toInt = -2 from by decide), (show (-2 : Int64).toInt = -2 from by decide), (show (0 : Int32).toInt = 0 from by decide), (show (0 : Int64).toInt = 0 from by decide), (show (1 : Int32).toInt = 1 from by decide), (show (1 : Int64).toInt = 1 from by decide), (show (2 : Int32).toInt = 2 from by decide), (show (2 : Int64).toInt = 2 from by decide), (show (3 : Int32).toInt = 3 from by decide), (show (3 : Int64).toInt = 3 from by decide)] at *; omega)))]
theorem lf_x_read_4 (s : Int32) (c_2 : ¬ (s = 0)) (c_4 : ¬ (s = 1)) (c_6 : ¬ (s = 2)) (c_8 : s = 3) : ((-11) : Int32) = if 0 ≤ s ∧ s ≤ 3 then -11 else -2 := by
  repeat first | rfl | rw [if_pos (by (first | omega | (simp only [Int64.le_iff_toInt_le, Int64.lt_iff_toInt_lt, Int32.le_iff_toInt_le, Int32.lt_iff_toInt_lt, ← Int32.toInt_inj, ← Int64.toInt_inj, Int32.toInt_toInt64, (show (-11 : Int32).toInt = -11 from by decide), (show (-11 : Int64).toInt = -11 from by decide), (show (-2 : Int32).toInt = -2 from by decide), (show (-2 : Int64).toInt = -2 from by decide), (show (0 : Int32).toInt = 0 from by decide), (show (0 : Int64).toInt = 0 from by decide), (show (1 : Int32).toInt = 1 from by decide), (show (1 : Int64).toInt = 1 from by decide), (show (2 : Int32).toInt = 2 from by decide), (show (2 : Int64).toInt = 2 from by decide), (show (3 : Int32).toInt = 3 from by decide), (show (3 : Int64).toInt = 3 from by decide)] at *; omega)))] | rw [if_neg (by (first | omega | (simp only [Int64.le_iff_toInt_le, Int64.lt_iff_toInt_lt, Int32.le_iff_toInt_le, Int32.lt_iff_toInt_lt, ← Int32.toInt_inj, ← Int64.toInt_inj, Int32.toInt_toInt64, (show (-11 : Int32).toInt = -11 from by decide), (show (-11 : Int64).toInt = -11 from by decide), (show (-2 : Int32).toInt = -2 from by decide), (show (-2 : Int64).toInt = -2 from by decide), (show (0 : Int32).toInt = 0 from by decide), (show (0 : Int64).toInt = 0 from by decide), (show (1 : Int32).toInt = 1 from by decide), (show (1 : Int64).toInt = 1 from by decide), (show (2 : Int32).toInt = 2 from by decide), (show (2 : Int64).toInt = 2 from by decide), (show (3 : Int32).toInt = 3 from by decide), (show (3 : Int64).toInt = 3 from by decide)] at *; omega)))]
theorem lf_x_read_5 (s : Int32) (c_2 : ¬ (s = 0)) (c_4 : ¬ (s = 1)) (c_6 : ¬ (s = 2)) (c_8 : ¬ (s = 3)) : ((-2) : Int32) = if 0 ≤ s ∧ s ≤ 3 then -11 else -2 := by
  repeat first | rfl | rw [if_pos (by (first | omega | (simp only [Int64.le_iff_toInt_le, Int64.lt_iff_toInt_lt, Int32.le_iff_toInt_le, Int32.lt_iff_toInt_lt, ← Int32.toInt_inj, ← Int64.toInt_inj, Int32.toInt_toInt64, (show (-11 : Int32).toInt = -11 from by decide), (show (-11 : Int64).toInt = -11 from by decide), (show (-2 : Int32).toInt = -2 from by decide), (show (-2 : Int64).toInt = -2 from by decide), (show (0 : Int32).toInt = 0 from by decide), (show (0 : Int64).toInt = 0 from by decide), (show (1 : Int32).toInt = 1 from by decide), (show (1 : Int64).toInt = 1 from by decide), (show (2 : Int32).toInt = 2 from by decide), (show (2 : Int64).toInt = 2 from by decide), (show (3 : Int32).toInt = 3 from by decide), (show (3 : Int64).toInt = 3 from by decide)] at *; omega)))] | rw [if_neg (by (first | omega | (simp only [Int64.le_iff_toInt_le, Int64.lt_iff_toInt_lt, Int32.le_iff_toInt_le, Int32.lt_iff_toInt_lt, ← Int32.toInt_inj, ← Int64.toInt_inj, Int32.toInt_toInt64, (show (-11 : Int32).toInt = -11 from by decide), (show (-11 : Int64).toInt = -11 from by decide), (show (-2 : Int32).toInt = -2 from by decide), (show (-2 : Int64).toInt = -2 from by decide), (show (0 : Int32).toInt = 0 from by decide), (show (0 : Int64).toInt = 0 from by decide), (show (1 : Int32).toInt = 1 from by decide), (show (1 : Int64).toInt = 1 from by decide), (show (2 : Int32).toInt = 2 from by decide), (show (2 : Int64).toInt = 2 from by decide), (show (3 : Int32).toInt = 3 from by decide), (show (3 : Int64).toInt = 3 from by decide)] at *; omega)))]
set_option maxHeartbeats 4000000 in
set_option maxRecDepth 100000 in
theorem x_read (l : Launch) (dC : Nat → ClassId) (dI : Nat → Nat → Nat) (cI cJ cQ : ClassId) (sz : Nat) (hx : Nat) (s : Int32) (aLa : Nat) (aPa : Nat) (aGe : Nat) (aFl : Nat) (aTr : Nat) (aBe : Nat) (aLu : Nat) (aLo : Nat) (vSf : Nat) (vSm : Nat) (vCo : Nat) (vSh : Nat) (s0 : Nat) (i0 : Nat) (s1 : Nat) (i1 : Nat) (s2 : Nat) (i2 : Nat) (s3 : Nat) (i3 : Nat) : Met l yX11_read (kW yX11_read cX11_read 6 (some .int)) { frames := 1, cells := 0, slots := 0, locals := 21 } (kPre dC dI cI cJ cQ sz [.ref hx, .int s] [(hx, .inr (10, [.ref aLa, .ref aPa, .ref aGe, .ref aFl, .ref aTr, .ref aBe, .ref aLu, .ref aLo, .ref vSf, .ref vSm, .ref vCo, .ref vSh, .int 0, .int 0, .int 0])), (vSh, .inl (cQ, 4, .inr (.inr (.inr (.inr (fSh s0 s1 s2 s3)))))), (s0, .inr (8, [.ref i0, .int 1, .int 0, .int 0])), (s1, .inr (8, [.ref i1, .int 1, .int 0, .int 0])), (s2, .inr (8, [.ref i2, .int 1, .int 0, .int 0])), (s3, .inr (8, [.ref i3, .int 1, .int 0, .int 0]))]) (va_Qi (fun (r : Int32) (_ : Unit) => r = if 0 ≤ s ∧ s ≤ 3 then -11 else -2) (fun _ _ => True) (va_A [(hx, .inr (10, [.ref aLa, .ref aPa, .ref aGe, .ref aFl, .ref aTr, .ref aBe, .ref aLu, .ref aLo, .ref vSf, .ref vSm, .ref vCo, .ref vSh, .int 0, .int 0, .int 0])), (vSh, .inl (cQ, 4, .inr (.inr (.inr (.inr (fSh s0 s1 s2 s3)))))), (s0, .inr (8, [.ref i0, .int 1, .int 0, .int 0])), (s1, .inr (8, [.ref i1, .int 1, .int 0, .int 0])), (s2, .inr (8, [.ref i2, .int 1, .int 0, .int 0])), (s3, .inr (8, [.ref i3, .int 1, .int 0, .int 0]))] sz)) 0 0 (va_A [(hx, .inr (10, [.ref aLa, .ref aPa, .ref aGe, .ref aFl, .ref aTr, .ref aBe, .ref aLu, .ref aLo, .ref vSf, .ref vSm, .ref vCo, .ref vSh, .int 0, .int 0, .int 0])), (vSh, .inl (cQ, 4, .inr (.inr (.inr (.inr (fSh s0 s1 s2 s3)))))), (s0, .inr (8, [.ref i0, .int 1, .int 0, .int 0])), (s1, .inr (8, [.ref i1, .int 1, .int 0, .int 0])), (s2, .inr (8, [.ref i2, .int 1, .int 0, .int 0])), (s3, .inr (8, [.ref i3, .int 1, .int 0, .int 0]))] sz) := by
  refine Met.ofW (cc := cX11_read) (maxL := 6) (ret := (some .int)) (by decide) rfl ?_
  intro p₀ e₀ s₀ m₀ args below meth c₀ s₁ B hml hv₀
  obtain ⟨rfl, hsz, hP, hK, hD0, hN⟩ := hv₀
  have hx₀ := B.exec
  have hb := B.bytes
  have hr := B.returns
  have hts := atoms_spec (ws := (kW yX11_read cX11_read 6 (some .int))) B.pre
  have hts := fun w h => hts w (List.mem_cons_of_mem _ h)
  have hown : s₀.vm.findClass RX11 = some m₀.cls := findClass_of_methodNamed B.named
  have hlocks := B.notSynchronized
  subst hsz
  have hD := hD0.self (sz := s₀.heap.size)
  generalize hAe : va_A [(hx, .inr (10, [.ref aLa, .ref aPa, .ref aGe, .ref aFl, .ref aTr, .ref aBe, .ref aLu, .ref aLo, .ref vSf, .ref vSm, .ref vCo, .ref vSh, .int 0, .int 0, .int 0])), (vSh, .inl (cQ, 4, .inr (.inr (.inr (.inr (fSh s0 s1 s2 s3)))))), (s0, .inr (8, [.ref i0, .int 1, .int 0, .int 0])), (s1, .inr (8, [.ref i1, .int 1, .int 0, .int 0])), (s2, .inr (8, [.ref i2, .int 1, .int 0, .int 0])), (s3, .inr (8, [.ref i3, .int 1, .int 0, .int 0]))] s₀.heap.size = A at hD ⊢
  have hA : ∀ q : Nat, s₀.heap.size ≤ q → A q := fun q h => by rw [← hAe]; exact Or.inr h
  have hS : va_S A s₀.heap s₀.heap [] := va_S.rf
  have hP : va_P (dC, dI) vwCl [(hx, .inr (10, [.ref aLa, .ref aPa, .ref aGe, .ref aFl, .ref aTr, .ref aBe, .ref aLu, .ref aLo, .ref vSf, .ref vSm, .ref vCo, .ref vSh, .int 0, .int 0, .int 0])), (vSh, .inl (cQ, 4, .inr (.inr (.inr (.inr (fSh s0 s1 s2 s3)))))), (s0, .inr (8, [.ref i0, .int 1, .int 0, .int 0])), (s1, .inr (8, [.ref i1, .int 1, .int 0, .int 0])), (s2, .inr (8, [.ref i2, .int 1, .int 0, .int 0])), (s3, .inr (8, [.ref i3, .int 1, .int 0, .int 0]))] s₀.heap := hP
  have hl := lv_entry ([.ref hx, .int s]) (n := 6) (Nat.le_of_ble_eq_true rfl)
  rw [lg_entry_eq]
  generalize (lg_sl ([.ref hx, .int s]) ++ List.replicate (6 - (lg_sl ([.ref hx, .int s])).length) Slot.unset).toArray = ls at hl ⊢
  have hl : lv_has ls 6 [(0, .ref hx), (1, .int s)] := hl
  obtain ⟨H, hH⟩ : ∃ z : Heap, z = s₀.heap := ⟨_, rfl⟩
  rw [← hH] at hP
  have hS : va_S A s₀.heap H [] := by rw [hH]; exact hS
  refine k_heap hH ?_
  have hD : va_D A [(hx, .inr (10, [.ref aLa, .ref aPa, .ref aGe, .ref aFl, .ref aTr, .ref aBe, .ref aLu, .ref aLo, .ref vSf, .ref vSm, .ref vCo, .ref vSh, .int 0, .int 0, .int 0])), (vSh, .inl (cQ, 4, .inr (.inr (.inr (.inr (fSh s0 s1 s2 s3)))))), (s0, .inr (8, [.ref i0, .int 1, .int 0, .int 0])), (s1, .inr (8, [.ref i1, .int 1, .int 0, .int 0])), (s2, .inr (8, [.ref i2, .int 1, .int 0, .int 0])), (s3, .inr (8, [.ref i3, .int 1, .int 0, .int 0]))] := hD
  obtain ⟨locs, hlo⟩ : ∃ z : List Loc, z = [] := ⟨_, rfl⟩
  rw [← hlo] at hS ⊢
  clear hlo hH hAe hD0
  refine lv_aload_n hx₀ hb dX11_read_0 rfl (lv_at hl 0 rfl) ?_
  refine lv_iload_n hx₀ hb dX11_read_1 rfl (lv_at hl 1 rfl) ?_
  have hPc := hP.sub (ws' := [(hx, .inr (10, [.ref aLa, .ref aPa, .ref aGe, .ref aFl, .ref aTr, .ref aBe, .ref aLu, .ref aLo, .ref vSf, .ref vSm, .ref vCo, .ref vSh, .int 0, .int 0, .int 0])), (vSh, .inl (cQ, 4, .inr (.inr (.inr (.inr (fSh s0 s1 s2 s3))))))]) [0, 1] rfl
  have hDc := hD.sub (ws' := [(hx, .inr (10, [.ref aLa, .ref aPa, .ref aGe, .ref aFl, .ref aTr, .ref aBe, .ref aLu, .ref aLo, .ref vSf, .ref vSm, .ref vCo, .ref vSh, .int 0, .int 0, .int 0])), (vSh, .inl (cQ, 4, .inr (.inr (.inr (.inr (fSh s0 s1 s2 s3))))))]) [0, 1] (by decide) rfl
  have hFc := va_free (wc := [(hx, .inr (10, [.ref aLa, .ref aPa, .ref aGe, .ref aFl, .ref aTr, .ref aBe, .ref aLu, .ref aLo, .ref vSf, .ref vSm, .ref vCo, .ref vSh, .int 0, .int 0, .int 0])), (vSh, .inl (cQ, 4, .inr (.inr (.inr (.inr (fSh s0 s1 s2 s3))))))]) hD hS hA [0, 1] rfl
  refine va_callq (va_runV (As := [.int s]) (rest := []) ⟨hx₀, hb, hml, hown, hts⟩ (c_sheetOf l dC dI cI cJ cQ H.size hx s aLa aPa aGe aFl aTr aBe aLu aLo vSf vSm vCo vSh s0 s1 s2 s3) (cwV 1 hts (kGV wd_383 wd_380 wd_381 wd_382 wd_2) rfl rfl rfl (by decide +kernel) ⟨Nat.le_of_ble_eq_true rfl, Nat.le_of_ble_eq_true rfl⟩) (k_preV (ci := 10) (q0 := 0) hK hPc hDc hN rfl rfl) rfl rfl hl.1 rfl (lv_room (Nat.le_of_ble_eq_true rfl)) dX11_read_2 ⟨by decide +kernel, by decide +kernel⟩) hS (fun q _ h => hFc q h) hFc (fun r_1 u₀ t₀ H1 locs ht hvm hw hB hz1 hk1 hS => ?_)
  obtain ⟨hP1, hK1, hD1⟩ := hB
  rw [ht] at hP1
  obtain ⟨hP, hD⟩ := va_join (wr := [(s0, .inr (8, [.ref i0, .int 1, .int 0, .int 0])), (s1, .inr (8, [.ref i1, .int 1, .int 0, .int 0])), (s2, .inr (8, [.ref i2, .int 1, .int 0, .int 0])), (s3, .inr (8, [.ref i3, .int 1, .int 0, .int 0]))]) (w1 := [(hx, .inr (10, [.ref aLa, .ref aPa, .ref aGe, .ref aFl, .ref aTr, .ref aBe, .ref aLu, .ref aLo, .ref vSf, .ref vSm, .ref vCo, .ref vSh, .int 0, .int 0, .int 0])), (vSh, .inl (cQ, 4, .inr (.inr (.inr (.inr (fSh s0 s1 s2 s3))))))]) hP hD [0, 1] [2, 3, 4, 5] rfl rfl (by decide) (by decide) hk1 hFc hP1 hD1
  generalize H1 = H at hP hS ⊢
  have hP : va_P (dC, dI) vwCl [(s0, .inr (8, [.ref i0, .int 1, .int 0, .int 0])), (s1, .inr (8, [.ref i1, .int 1, .int 0, .int 0])), (s2, .inr (8, [.ref i2, .int 1, .int 0, .int 0])), (s3, .inr (8, [.ref i3, .int 1, .int 0, .int 0])), (hx, .inr (10, [.ref aLa, .ref aPa, .ref aGe, .ref aFl, .ref aTr, .ref aBe, .ref aLu, .ref aLo, .ref vSf, .ref vSm, .ref vCo, .ref vSh, .int 0, .int 0, .int 0])), (vSh, .inl (cQ, 4, .inr (.inr (.inr (.inr (fSh s0 s1 s2 s3))))))] H := hP
  have hD : va_D A [(s0, .inr (8, [.ref i0, .int 1, .int 0, .int 0])), (s1, .inr (8, [.ref i1, .int 1, .int 0, .int 0])), (s2, .inr (8, [.ref i2, .int 1, .int 0, .int 0])), (s3, .inr (8, [.ref i3, .int 1, .int 0, .int 0])), (hx, .inr (10, [.ref aLa, .ref aPa, .ref aGe, .ref aFl, .ref aTr, .ref aBe, .ref aLu, .ref aLo, .ref vSf, .ref vSm, .ref vCo, .ref vSh, .int 0, .int 0, .int 0])), (vSh, .inl (cQ, 4, .inr (.inr (.inr (.inr (fSh s0 s1 s2 s3))))))] := hD
  try dsimp only at hw
  by_cases c_2 : s = 0
  · rw [if_pos c_2] at hw
    subst hw
    refine W.eq (g2 := F0 m₀ 5 ls [.ref s0]) rfl ?_
    refine lv_astore_n (lv' := [(2, .ref s0), (0, .ref hx), (1, .int s)]) hx₀ hb dX11_read_5 rfl hl (by decide) rfl (fun ls hl => ?_)
    refine lv_aload_n hx₀ hb dX11_read_6 rfl (lv_at hl 0 rfl) ?_
    refine lv_ifnonnull (tgt := 13) hx₀ hb dX11_read_7 (by decide) ?_
    refine lv_aload_n hx₀ hb dX11_read_13 rfl (lv_at hl 0 rfl) ?_
    refine va_get (D := (dC, dI)) (ci := 8) (v := .int 1) (C := RX8) (T := TX8) (N := 4) hx₀ hb hts inlX8 hown hK hP 0 rfl rfl 1 (by decide) (hts (.fieldLink RX11 133 "BittenStick$Sheet" "isLost" "Z") wd_378) (fun _ h9 => h9) rfl dX11_read_14 ?_
    refine lv_if_eq (tgt := 26) hx₀ hb dX11_read_17 (by decide) (fun c9 => absurd c9 (by decide +kernel)) (fun _ => ?_)
    refine lv_aload_n hx₀ hb dX11_read_20 rfl (lv_at hl 1 rfl) ?_
    refine lv_iconst (v := 1) hx₀ hb dX11_read_21 (by decide +kernel) ?_
    have hPc := hP.sub (ws' := [(hx, .inr (10, [.ref aLa, .ref aPa, .ref aGe, .ref aFl, .ref aTr, .ref aBe, .ref aLu, .ref aLo, .ref vSf, .ref vSm, .ref vCo, .ref vSh, .int 0, .int 0, .int 0]))]) [4] rfl
    have hDc := hD.sub (ws' := [(hx, .inr (10, [.ref aLa, .ref aPa, .ref aGe, .ref aFl, .ref aTr, .ref aBe, .ref aLu, .ref aLo, .ref vSf, .ref vSm, .ref vCo, .ref vSh, .int 0, .int 0, .int 0]))]) [4] (by decide) rfl
    have hFc := va_free (wc := [(hx, .inr (10, [.ref aLa, .ref aPa, .ref aGe, .ref aFl, .ref aTr, .ref aBe, .ref aLu, .ref aLo, .ref vSf, .ref vSm, .ref vCo, .ref vSh, .int 0, .int 0, .int 0]))]) hD hS hA [4] rfl
    refine va_calli (va_runV (As := [.int 1]) (rest := []) ⟨hx₀, hb, hml, hown, hts⟩ (c_found1 l dC dI cI cJ cQ H.size hx aLa aPa aGe aFl aTr aBe aLu aLo vSf vSm vCo vSh) (cwV 1 hts (kGV wd_387 wd_384 wd_385 wd_386 wd_2) rfl rfl rfl (by decide +kernel) ⟨Nat.le_of_ble_eq_true rfl, Nat.le_of_ble_eq_true rfl⟩) (k_preV (ci := 10) (q0 := 0) hK hPc hDc hN rfl rfl) rfl rfl hl.1 rfl (lv_room (Nat.le_of_ble_eq_true rfl)) dX11_read_22 ⟨by decide +kernel, by decide +kernel⟩) hS (fun q _ h => hFc q h) hFc (fun r_3 u₀ t₀ H1 locs ht hvm hw hB hz1 hk1 hS => ?_)
    obtain ⟨hP1, hK1, hD1⟩ := hB
    rw [ht] at hP1
    obtain ⟨hP, hD⟩ := va_join (wr := [(s0, .inr (8, [.ref i0, .int 1, .int 0, .int 0])), (s1, .inr (8, [.ref i1, .int 1, .int 0, .int 0])), (s2, .inr (8, [.ref i2, .int 1, .int 0, .int 0])), (s3, .inr (8, [.ref i3, .int 1, .int 0, .int 0])), (vSh, .inl (cQ, 4, .inr (.inr (.inr (.inr (fSh s0 s1 s2 s3))))))]) (w1 := [(hx, .inr (10, [.ref aLa, .ref aPa, .ref aGe, .ref aFl, .ref aTr, .ref aBe, .ref aLu, .ref aLo, .ref vSf, .ref vSm, .ref vCo, .ref vSh, .int 0, .int 0, .int 1]))]) hP hD [4] [0, 1, 2, 3, 5] rfl rfl (by decide) (by decide) hk1 hFc hP1 hD1
    generalize H1 = H at hP hS ⊢
    have hP : va_P (dC, dI) vwCl [(s0, .inr (8, [.ref i0, .int 1, .int 0, .int 0])), (s1, .inr (8, [.ref i1, .int 1, .int 0, .int 0])), (s2, .inr (8, [.ref i2, .int 1, .int 0, .int 0])), (s3, .inr (8, [.ref i3, .int 1, .int 0, .int 0])), (vSh, .inl (cQ, 4, .inr (.inr (.inr (.inr (fSh s0 s1 s2 s3)))))), (hx, .inr (10, [.ref aLa, .ref aPa, .ref aGe, .ref aFl, .ref aTr, .ref aBe, .ref aLu, .ref aLo, .ref vSf, .ref vSm, .ref vCo, .ref vSh, .int 0, .int 0, .int 1]))] H := hP
    have hD : va_D A [(s0, .inr (8, [.ref i0, .int 1, .int 0, .int 0])), (s1, .inr (8, [.ref i1, .int 1, .int 0, .int 0])), (s2, .inr (8, [.ref i2, .int 1, .int 0, .int 0])), (s3, .inr (8, [.ref i3, .int 1, .int 0, .int 0])), (vSh, .inl (cQ, 4, .inr (.inr (.inr (.inr (fSh s0 s1 s2 s3)))))), (hx, .inr (10, [.ref aLa, .ref aPa, .ref aGe, .ref aFl, .ref aTr, .ref aBe, .ref aLu, .ref aLo, .ref vSf, .ref vSm, .ref vCo, .ref vSh, .int 0, .int 0, .int 1]))] := hD
    try dsimp only at hw
    refine k_topi (v := (-11)) hw ?_
    exact W.iret (v := (-11)) hx₀ hb hr (fun t₀ ht hW => ⟨⟨(-11), (), rfl, (lf_x_read_1 s c_2), trivial⟩, hS.F ht⟩) hS.2.2 dX11_read_25
  rw [if_neg c_2] at hw
  by_cases c_4 : s = 1
  · rw [if_pos c_4] at hw
    subst hw
    refine W.eq (g2 := F0 m₀ 5 ls [.ref s1]) rfl ?_
    refine lv_astore_n (lv' := [(2, .ref s1), (0, .ref hx), (1, .int s)]) hx₀ hb dX11_read_5 rfl hl (by decide) rfl (fun ls hl => ?_)
    refine lv_aload_n hx₀ hb dX11_read_6 rfl (lv_at hl 0 rfl) ?_
    refine lv_ifnonnull (tgt := 13) hx₀ hb dX11_read_7 (by decide) ?_
    refine lv_aload_n hx₀ hb dX11_read_13 rfl (lv_at hl 0 rfl) ?_
    refine va_get (D := (dC, dI)) (ci := 8) (v := .int 1) (C := RX8) (T := TX8) (N := 4) hx₀ hb hts inlX8 hown hK hP 1 rfl rfl 1 (by decide) (hts (.fieldLink RX11 133 "BittenStick$Sheet" "isLost" "Z") wd_378) (fun _ h9 => h9) rfl dX11_read_14 ?_
    refine lv_if_eq (tgt := 26) hx₀ hb dX11_read_17 (by decide) (fun c9 => absurd c9 (by decide +kernel)) (fun _ => ?_)
    refine lv_aload_n hx₀ hb dX11_read_20 rfl (lv_at hl 1 rfl) ?_
    refine lv_iconst (v := 1) hx₀ hb dX11_read_21 (by decide +kernel) ?_
    have hPc := hP.sub (ws' := [(hx, .inr (10, [.ref aLa, .ref aPa, .ref aGe, .ref aFl, .ref aTr, .ref aBe, .ref aLu, .ref aLo, .ref vSf, .ref vSm, .ref vCo, .ref vSh, .int 0, .int 0, .int 0]))]) [4] rfl
    have hDc := hD.sub (ws' := [(hx, .inr (10, [.ref aLa, .ref aPa, .ref aGe, .ref aFl, .ref aTr, .ref aBe, .ref aLu, .ref aLo, .ref vSf, .ref vSm, .ref vCo, .ref vSh, .int 0, .int 0, .int 0]))]) [4] (by decide) rfl
    have hFc := va_free (wc := [(hx, .inr (10, [.ref aLa, .ref aPa, .ref aGe, .ref aFl, .ref aTr, .ref aBe, .ref aLu, .ref aLo, .ref vSf, .ref vSm, .ref vCo, .ref vSh, .int 0, .int 0, .int 0]))]) hD hS hA [4] rfl
    refine va_calli (va_runV (As := [.int 1]) (rest := []) ⟨hx₀, hb, hml, hown, hts⟩ (c_found1 l dC dI cI cJ cQ H.size hx aLa aPa aGe aFl aTr aBe aLu aLo vSf vSm vCo vSh) (cwV 1 hts (kGV wd_387 wd_384 wd_385 wd_386 wd_2) rfl rfl rfl (by decide +kernel) ⟨Nat.le_of_ble_eq_true rfl, Nat.le_of_ble_eq_true rfl⟩) (k_preV (ci := 10) (q0 := 0) hK hPc hDc hN rfl rfl) rfl rfl hl.1 rfl (lv_room (Nat.le_of_ble_eq_true rfl)) dX11_read_22 ⟨by decide +kernel, by decide +kernel⟩) hS (fun q _ h => hFc q h) hFc (fun r_5 u₀ t₀ H1 locs ht hvm hw hB hz1 hk1 hS => ?_)
    obtain ⟨hP1, hK1, hD1⟩ := hB
    rw [ht] at hP1
    obtain ⟨hP, hD⟩ := va_join (wr := [(s0, .inr (8, [.ref i0, .int 1, .int 0, .int 0])), (s1, .inr (8, [.ref i1, .int 1, .int 0, .int 0])), (s2, .inr (8, [.ref i2, .int 1, .int 0, .int 0])), (s3, .inr (8, [.ref i3, .int 1, .int 0, .int 0])), (vSh, .inl (cQ, 4, .inr (.inr (.inr (.inr (fSh s0 s1 s2 s3))))))]) (w1 := [(hx, .inr (10, [.ref aLa, .ref aPa, .ref aGe, .ref aFl, .ref aTr, .ref aBe, .ref aLu, .ref aLo, .ref vSf, .ref vSm, .ref vCo, .ref vSh, .int 0, .int 0, .int 1]))]) hP hD [4] [0, 1, 2, 3, 5] rfl rfl (by decide) (by decide) hk1 hFc hP1 hD1
    generalize H1 = H at hP hS ⊢
    have hP : va_P (dC, dI) vwCl [(s0, .inr (8, [.ref i0, .int 1, .int 0, .int 0])), (s1, .inr (8, [.ref i1, .int 1, .int 0, .int 0])), (s2, .inr (8, [.ref i2, .int 1, .int 0, .int 0])), (s3, .inr (8, [.ref i3, .int 1, .int 0, .int 0])), (vSh, .inl (cQ, 4, .inr (.inr (.inr (.inr (fSh s0 s1 s2 s3)))))), (hx, .inr (10, [.ref aLa, .ref aPa, .ref aGe, .ref aFl, .ref aTr, .ref aBe, .ref aLu, .ref aLo, .ref vSf, .ref vSm, .ref vCo, .ref vSh, .int 0, .int 0, .int 1]))] H := hP
    have hD : va_D A [(s0, .inr (8, [.ref i0, .int 1, .int 0, .int 0])), (s1, .inr (8, [.ref i1, .int 1, .int 0, .int 0])), (s2, .inr (8, [.ref i2, .int 1, .int 0, .int 0])), (s3, .inr (8, [.ref i3, .int 1, .int 0, .int 0])), (vSh, .inl (cQ, 4, .inr (.inr (.inr (.inr (fSh s0 s1 s2 s3)))))), (hx, .inr (10, [.ref aLa, .ref aPa, .ref aGe, .ref aFl, .ref aTr, .ref aBe, .ref aLu, .ref aLo, .ref vSf, .ref vSm, .ref vCo, .ref vSh, .int 0, .int 0, .int 1]))] := hD
    try dsimp only at hw
    refine k_topi (v := (-11)) hw ?_
    exact W.iret (v := (-11)) hx₀ hb hr (fun t₀ ht hW => ⟨⟨(-11), (), rfl, (lf_x_read_2 s c_2 c_4), trivial⟩, hS.F ht⟩) hS.2.2 dX11_read_25
  rw [if_neg c_4] at hw
  by_cases c_6 : s = 2
  · rw [if_pos c_6] at hw
    subst hw
    refine W.eq (g2 := F0 m₀ 5 ls [.ref s2]) rfl ?_
    refine lv_astore_n (lv' := [(2, .ref s2), (0, .ref hx), (1, .int s)]) hx₀ hb dX11_read_5 rfl hl (by decide) rfl (fun ls hl => ?_)
    refine lv_aload_n hx₀ hb dX11_read_6 rfl (lv_at hl 0 rfl) ?_
    refine lv_ifnonnull (tgt := 13) hx₀ hb dX11_read_7 (by decide) ?_
    refine lv_aload_n hx₀ hb dX11_read_13 rfl (lv_at hl 0 rfl) ?_
    refine va_get (D := (dC, dI)) (ci := 8) (v := .int 1) (C := RX8) (T := TX8) (N := 4) hx₀ hb hts inlX8 hown hK hP 2 rfl rfl 1 (by decide) (hts (.fieldLink RX11 133 "BittenStick$Sheet" "isLost" "Z") wd_378) (fun _ h9 => h9) rfl dX11_read_14 ?_
    refine lv_if_eq (tgt := 26) hx₀ hb dX11_read_17 (by decide) (fun c9 => absurd c9 (by decide +kernel)) (fun _ => ?_)
    refine lv_aload_n hx₀ hb dX11_read_20 rfl (lv_at hl 1 rfl) ?_
    refine lv_iconst (v := 1) hx₀ hb dX11_read_21 (by decide +kernel) ?_
    have hPc := hP.sub (ws' := [(hx, .inr (10, [.ref aLa, .ref aPa, .ref aGe, .ref aFl, .ref aTr, .ref aBe, .ref aLu, .ref aLo, .ref vSf, .ref vSm, .ref vCo, .ref vSh, .int 0, .int 0, .int 0]))]) [4] rfl
    have hDc := hD.sub (ws' := [(hx, .inr (10, [.ref aLa, .ref aPa, .ref aGe, .ref aFl, .ref aTr, .ref aBe, .ref aLu, .ref aLo, .ref vSf, .ref vSm, .ref vCo, .ref vSh, .int 0, .int 0, .int 0]))]) [4] (by decide) rfl
    have hFc := va_free (wc := [(hx, .inr (10, [.ref aLa, .ref aPa, .ref aGe, .ref aFl, .ref aTr, .ref aBe, .ref aLu, .ref aLo, .ref vSf, .ref vSm, .ref vCo, .ref vSh, .int 0, .int 0, .int 0]))]) hD hS hA [4] rfl
    refine va_calli (va_runV (As := [.int 1]) (rest := []) ⟨hx₀, hb, hml, hown, hts⟩ (c_found1 l dC dI cI cJ cQ H.size hx aLa aPa aGe aFl aTr aBe aLu aLo vSf vSm vCo vSh) (cwV 1 hts (kGV wd_387 wd_384 wd_385 wd_386 wd_2) rfl rfl rfl (by decide +kernel) ⟨Nat.le_of_ble_eq_true rfl, Nat.le_of_ble_eq_true rfl⟩) (k_preV (ci := 10) (q0 := 0) hK hPc hDc hN rfl rfl) rfl rfl hl.1 rfl (lv_room (Nat.le_of_ble_eq_true rfl)) dX11_read_22 ⟨by decide +kernel, by decide +kernel⟩) hS (fun q _ h => hFc q h) hFc (fun r_7 u₀ t₀ H1 locs ht hvm hw hB hz1 hk1 hS => ?_)
    obtain ⟨hP1, hK1, hD1⟩ := hB
    rw [ht] at hP1
    obtain ⟨hP, hD⟩ := va_join (wr := [(s0, .inr (8, [.ref i0, .int 1, .int 0, .int 0])), (s1, .inr (8, [.ref i1, .int 1, .int 0, .int 0])), (s2, .inr (8, [.ref i2, .int 1, .int 0, .int 0])), (s3, .inr (8, [.ref i3, .int 1, .int 0, .int 0])), (vSh, .inl (cQ, 4, .inr (.inr (.inr (.inr (fSh s0 s1 s2 s3))))))]) (w1 := [(hx, .inr (10, [.ref aLa, .ref aPa, .ref aGe, .ref aFl, .ref aTr, .ref aBe, .ref aLu, .ref aLo, .ref vSf, .ref vSm, .ref vCo, .ref vSh, .int 0, .int 0, .int 1]))]) hP hD [4] [0, 1, 2, 3, 5] rfl rfl (by decide) (by decide) hk1 hFc hP1 hD1
    generalize H1 = H at hP hS ⊢
    have hP : va_P (dC, dI) vwCl [(s0, .inr (8, [.ref i0, .int 1, .int 0, .int 0])), (s1, .inr (8, [.ref i1, .int 1, .int 0, .int 0])), (s2, .inr (8, [.ref i2, .int 1, .int 0, .int 0])), (s3, .inr (8, [.ref i3, .int 1, .int 0, .int 0])), (vSh, .inl (cQ, 4, .inr (.inr (.inr (.inr (fSh s0 s1 s2 s3)))))), (hx, .inr (10, [.ref aLa, .ref aPa, .ref aGe, .ref aFl, .ref aTr, .ref aBe, .ref aLu, .ref aLo, .ref vSf, .ref vSm, .ref vCo, .ref vSh, .int 0, .int 0, .int 1]))] H := hP
    have hD : va_D A [(s0, .inr (8, [.ref i0, .int 1, .int 0, .int 0])), (s1, .inr (8, [.ref i1, .int 1, .int 0, .int 0])), (s2, .inr (8, [.ref i2, .int 1, .int 0, .int 0])), (s3, .inr (8, [.ref i3, .int 1, .int 0, .int 0])), (vSh, .inl (cQ, 4, .inr (.inr (.inr (.inr (fSh s0 s1 s2 s3)))))), (hx, .inr (10, [.ref aLa, .ref aPa, .ref aGe, .ref aFl, .ref aTr, .ref aBe, .ref aLu, .ref aLo, .ref vSf, .ref vSm, .ref vCo, .ref vSh, .int 0, .int 0, .int 1]))] := hD
    try dsimp only at hw
    refine k_topi (v := (-11)) hw ?_
    exact W.iret (v := (-11)) hx₀ hb hr (fun t₀ ht hW => ⟨⟨(-11), (), rfl, (lf_x_read_3 s c_2 c_4 c_6), trivial⟩, hS.F ht⟩) hS.2.2 dX11_read_25
  rw [if_neg c_6] at hw
  by_cases c_8 : s = 3
  · rw [if_pos c_8] at hw
    subst hw
    refine W.eq (g2 := F0 m₀ 5 ls [.ref s3]) rfl ?_
    refine lv_astore_n (lv' := [(2, .ref s3), (0, .ref hx), (1, .int s)]) hx₀ hb dX11_read_5 rfl hl (by decide) rfl (fun ls hl => ?_)
    refine lv_aload_n hx₀ hb dX11_read_6 rfl (lv_at hl 0 rfl) ?_
    refine lv_ifnonnull (tgt := 13) hx₀ hb dX11_read_7 (by decide) ?_
    refine lv_aload_n hx₀ hb dX11_read_13 rfl (lv_at hl 0 rfl) ?_
    refine va_get (D := (dC, dI)) (ci := 8) (v := .int 1) (C := RX8) (T := TX8) (N := 4) hx₀ hb hts inlX8 hown hK hP 3 rfl rfl 1 (by decide) (hts (.fieldLink RX11 133 "BittenStick$Sheet" "isLost" "Z") wd_378) (fun _ h9 => h9) rfl dX11_read_14 ?_
    refine lv_if_eq (tgt := 26) hx₀ hb dX11_read_17 (by decide) (fun c9 => absurd c9 (by decide +kernel)) (fun _ => ?_)
    refine lv_aload_n hx₀ hb dX11_read_20 rfl (lv_at hl 1 rfl) ?_
    refine lv_iconst (v := 1) hx₀ hb dX11_read_21 (by decide +kernel) ?_
    have hPc := hP.sub (ws' := [(hx, .inr (10, [.ref aLa, .ref aPa, .ref aGe, .ref aFl, .ref aTr, .ref aBe, .ref aLu, .ref aLo, .ref vSf, .ref vSm, .ref vCo, .ref vSh, .int 0, .int 0, .int 0]))]) [4] rfl
    have hDc := hD.sub (ws' := [(hx, .inr (10, [.ref aLa, .ref aPa, .ref aGe, .ref aFl, .ref aTr, .ref aBe, .ref aLu, .ref aLo, .ref vSf, .ref vSm, .ref vCo, .ref vSh, .int 0, .int 0, .int 0]))]) [4] (by decide) rfl
    have hFc := va_free (wc := [(hx, .inr (10, [.ref aLa, .ref aPa, .ref aGe, .ref aFl, .ref aTr, .ref aBe, .ref aLu, .ref aLo, .ref vSf, .ref vSm, .ref vCo, .ref vSh, .int 0, .int 0, .int 0]))]) hD hS hA [4] rfl
    refine va_calli (va_runV (As := [.int 1]) (rest := []) ⟨hx₀, hb, hml, hown, hts⟩ (c_found1 l dC dI cI cJ cQ H.size hx aLa aPa aGe aFl aTr aBe aLu aLo vSf vSm vCo vSh) (cwV 1 hts (kGV wd_387 wd_384 wd_385 wd_386 wd_2) rfl rfl rfl (by decide +kernel) ⟨Nat.le_of_ble_eq_true rfl, Nat.le_of_ble_eq_true rfl⟩) (k_preV (ci := 10) (q0 := 0) hK hPc hDc hN rfl rfl) rfl rfl hl.1 rfl (lv_room (Nat.le_of_ble_eq_true rfl)) dX11_read_22 ⟨by decide +kernel, by decide +kernel⟩) hS (fun q _ h => hFc q h) hFc (fun r_9 u₀ t₀ H1 locs ht hvm hw hB hz1 hk1 hS => ?_)
    obtain ⟨hP1, hK1, hD1⟩ := hB
    rw [ht] at hP1
    obtain ⟨hP, hD⟩ := va_join (wr := [(s0, .inr (8, [.ref i0, .int 1, .int 0, .int 0])), (s1, .inr (8, [.ref i1, .int 1, .int 0, .int 0])), (s2, .inr (8, [.ref i2, .int 1, .int 0, .int 0])), (s3, .inr (8, [.ref i3, .int 1, .int 0, .int 0])), (vSh, .inl (cQ, 4, .inr (.inr (.inr (.inr (fSh s0 s1 s2 s3))))))]) (w1 := [(hx, .inr (10, [.ref aLa, .ref aPa, .ref aGe, .ref aFl, .ref aTr, .ref aBe, .ref aLu, .ref aLo, .ref vSf, .ref vSm, .ref vCo, .ref vSh, .int 0, .int 0, .int 1]))]) hP hD [4] [0, 1, 2, 3, 5] rfl rfl (by decide) (by decide) hk1 hFc hP1 hD1
    generalize H1 = H at hP hS ⊢
    have hP : va_P (dC, dI) vwCl [(s0, .inr (8, [.ref i0, .int 1, .int 0, .int 0])), (s1, .inr (8, [.ref i1, .int 1, .int 0, .int 0])), (s2, .inr (8, [.ref i2, .int 1, .int 0, .int 0])), (s3, .inr (8, [.ref i3, .int 1, .int 0, .int 0])), (vSh, .inl (cQ, 4, .inr (.inr (.inr (.inr (fSh s0 s1 s2 s3)))))), (hx, .inr (10, [.ref aLa, .ref aPa, .ref aGe, .ref aFl, .ref aTr, .ref aBe, .ref aLu, .ref aLo, .ref vSf, .ref vSm, .ref vCo, .ref vSh, .int 0, .int 0, .int 1]))] H := hP
    have hD : va_D A [(s0, .inr (8, [.ref i0, .int 1, .int 0, .int 0])), (s1, .inr (8, [.ref i1, .int 1, .int 0, .int 0])), (s2, .inr (8, [.ref i2, .int 1, .int 0, .int 0])), (s3, .inr (8, [.ref i3, .int 1, .int 0, .int 0])), (vSh, .inl (cQ, 4, .inr (.inr (.inr (.inr (fSh s0 s1 s2 s3)))))), (hx, .inr (10, [.ref aLa, .ref aPa, .ref aGe, .ref aFl, .ref aTr, .ref aBe, .ref aLu, .ref aLo, .ref vSf, .ref vSm, .ref vCo, .ref vSh, .int 0, .int 0, .int 1]))] := hD
    try dsimp only at hw
    refine k_topi (v := (-11)) hw ?_
    exact W.iret (v := (-11)) hx₀ hb hr (fun t₀ ht hW => ⟨⟨(-11), (), rfl, (lf_x_read_4 s c_2 c_4 c_6 c_8), trivial⟩, hS.F ht⟩) hS.2.2 dX11_read_25
  rw [if_neg c_8] at hw
  subst hw
  refine W.eq (g2 := F0 m₀ 5 ls [.null]) rfl ?_
  refine lv_astore_nN (lv' := [(2, .null), (0, .ref hx), (1, .int s)]) hx₀ hb dX11_read_5 rfl hl (by decide) rfl (fun ls hl => ?_)
  refine lv_aload_nN hx₀ hb dX11_read_6 rfl (lv_at hl 0 rfl) ?_
  refine lv_ifnonnullN hx₀ hb dX11_read_7 ?_
  refine lv_bipush (v := (-2)) hx₀ hb dX11_read_10 (by decide +kernel) ?_
  exact W.iret (v := (-2)) hx₀ hb hr (fun t₀ ht hW => ⟨⟨(-2), (), rfl, (lf_x_read_5 s c_2 c_4 c_6 c_8), trivial⟩, hS.F ht⟩) hS.2.2 dX11_read_12
theorem lf_x_learn_1 (k : Int32) (c_1 : k < 0) : ((-2) : Int32) = if 0 ≤ k ∧ k ≤ 63 then 0 else -2 := by
  repeat first | rfl | rw [if_pos (by (first | omega | (simp only [Int64.le_iff_toInt_le, Int64.lt_iff_toInt_lt, Int32.le_iff_toInt_le, Int32.lt_iff_toInt_lt, ← Int32.toInt_inj, ← Int64.toInt_inj, Int32.toInt_toInt64, (show (-2 : Int32).toInt = -2 from by decide), (show (-2 : Int64).toInt = -2 from by decide), (show (0 : Int32).toInt = 0 from by decide), (show (0 : Int64).toInt = 0 from by decide), (show (63 : Int32).toInt = 63 from by decide), (show (63 : Int64).toInt = 63 from by decide)] at *; omega)))] | rw [if_neg (by (first | omega | (simp only [Int64.le_iff_toInt_le, Int64.lt_iff_toInt_lt, Int32.le_iff_toInt_le, Int32.lt_iff_toInt_lt, ← Int32.toInt_inj, ← Int64.toInt_inj, Int32.toInt_toInt64, (show (-2 : Int32).toInt = -2 from by decide), (show (-2 : Int64).toInt = -2 from by decide), (show (0 : Int32).toInt = 0 from by decide), (show (0 : Int64).toInt = 0 from by decide), (show (63 : Int32).toInt = 63 from by decide), (show (63 : Int64).toInt = 63 from by decide)] at *; omega)))]
theorem lf_x_learn_2 (k : Int32) (c_1 : ¬ k < 0) (c_2 : k < 64) : (0 : Int32) = if 0 ≤ k ∧ k ≤ 63 then 0 else -2 := by
  repeat first | rfl | rw [if_pos (by (first | omega | (simp only [Int64.le_iff_toInt_le, Int64.lt_iff_toInt_lt, Int32.le_iff_toInt_le, Int32.lt_iff_toInt_lt, ← Int32.toInt_inj, ← Int64.toInt_inj, Int32.toInt_toInt64, (show (-2 : Int32).toInt = -2 from by decide), (show (-2 : Int64).toInt = -2 from by decide), (show (0 : Int32).toInt = 0 from by decide), (show (0 : Int64).toInt = 0 from by decide), (show (63 : Int32).toInt = 63 from by decide), (show (63 : Int64).toInt = 63 from by decide), (show (64 : Int32).toInt = 64 from by decide), (show (64 : Int64).toInt = 64 from by decide)] at *; omega)))] | rw [if_neg (by (first | omega | (simp only [Int64.le_iff_toInt_le, Int64.lt_iff_toInt_lt, Int32.le_iff_toInt_le, Int32.lt_iff_toInt_lt, ← Int32.toInt_inj, ← Int64.toInt_inj, Int32.toInt_toInt64, (show (-2 : Int32).toInt = -2 from by decide), (show (-2 : Int64).toInt = -2 from by decide), (show (0 : Int32).toInt = 0 from by decide), (show (0 : Int64).toInt = 0 from by decide), (show (63 : Int32).toInt = 63 from by decide), (show (63 : Int64).toInt = 63 from by decide), (show (64 : Int32).toInt = 64 from by decide), (show (64 : Int64).toInt = 64 from by decide)] at *; omega)))]
theorem lf_x_learn_3 (k : Int32) (c_1 : ¬ k < 0) (c_2 : ¬ k < 64) : ((-2) : Int32) = if 0 ≤ k ∧ k ≤ 63 then 0 else -2 := by
  repeat first | rfl | rw [if_pos (by (first | omega | (simp only [Int64.le_iff_toInt_le, Int64.lt_iff_toInt_lt, Int32.le_iff_toInt_le, Int32.lt_iff_toInt_lt, ← Int32.toInt_inj, ← Int64.toInt_inj, Int32.toInt_toInt64, (show (-2 : Int32).toInt = -2 from by decide), (show (-2 : Int64).toInt = -2 from by decide), (show (0 : Int32).toInt = 0 from by decide), (show (0 : Int64).toInt = 0 from by decide), (show (63 : Int32).toInt = 63 from by decide), (show (63 : Int64).toInt = 63 from by decide), (show (64 : Int32).toInt = 64 from by decide), (show (64 : Int64).toInt = 64 from by decide)] at *; omega)))] | rw [if_neg (by (first | omega | (simp only [Int64.le_iff_toInt_le, Int64.lt_iff_toInt_lt, Int32.le_iff_toInt_le, Int32.lt_iff_toInt_lt, ← Int32.toInt_inj, ← Int64.toInt_inj, Int32.toInt_toInt64, (show (-2 : Int32).toInt = -2 from by decide), (show (-2 : Int64).toInt = -2 from by decide), (show (0 : Int32).toInt = 0 from by decide), (show (0 : Int64).toInt = 0 from by decide), (show (63 : Int32).toInt = 63 from by decide), (show (63 : Int64).toInt = 63 from by decide), (show (64 : Int32).toInt = 64 from by decide), (show (64 : Int64).toInt = 64 from by decide)] at *; omega)))]
set_option maxHeartbeats 4000000 in
set_option maxRecDepth 100000 in
theorem x_learn (l : Launch) (dC : Nat → ClassId) (dI : Nat → Nat → Nat) (cI cJ cQ : ClassId) (sz : Nat) (hx : Nat) (k : Int32) (aLa : Nat) (aPa : Nat) (aGe : Nat) (aFl : Nat) (aTr : Nat) (aBe : Nat) (aLu : Nat) (aLo : Nat) (vSf : Nat) (vSm : Nat) (vCo : Nat) (vSh : Nat) : Met l yX11_learn (kW yX11_learn cX11_learn 3 (some .int)) { frames := 0, cells := 0, slots := 0, locals := 0 } (kPre dC dI cI cJ cQ sz [.ref hx, .int k] [(hx, .inr (10, [.ref aLa, .ref aPa, .ref aGe, .ref aFl, .ref aTr, .ref aBe, .ref aLu, .ref aLo, .ref vSf, .ref vSm, .ref vCo, .ref vSh, .int 0, .int 0, .int 0]))]) (va_Qi (fun (r : Int32) (_ : Unit) => r = if 0 ≤ k ∧ k ≤ 63 then 0 else -2) (fun _ _ => True) (va_A [(hx, .inr (10, [.ref aLa, .ref aPa, .ref aGe, .ref aFl, .ref aTr, .ref aBe, .ref aLu, .ref aLo, .ref vSf, .ref vSm, .ref vCo, .ref vSh, .int 0, .int 0, .int 0]))] sz)) 0 0 (va_A [(hx, .inr (10, [.ref aLa, .ref aPa, .ref aGe, .ref aFl, .ref aTr, .ref aBe, .ref aLu, .ref aLo, .ref vSf, .ref vSm, .ref vCo, .ref vSh, .int 0, .int 0, .int 0]))] sz) := by
  refine Met.ofW (cc := cX11_learn) (maxL := 3) (ret := (some .int)) (by decide) rfl ?_
  intro p₀ e₀ s₀ m₀ args below meth c₀ s₁ B hml hv₀
  obtain ⟨rfl, hsz, hP, hK, hD0, hN⟩ := hv₀
  have hx₀ := B.exec
  have hb := B.bytes
  have hr := B.returns
  have hts := atoms_spec (ws := (kW yX11_learn cX11_learn 3 (some .int))) B.pre
  have hts := fun w h => hts w (List.mem_cons_of_mem _ h)
  have hown : s₀.vm.findClass RX11 = some m₀.cls := findClass_of_methodNamed B.named
  have hlocks := B.notSynchronized
  subst hsz
  have hD := hD0.self (sz := s₀.heap.size)
  generalize hAe : va_A [(hx, .inr (10, [.ref aLa, .ref aPa, .ref aGe, .ref aFl, .ref aTr, .ref aBe, .ref aLu, .ref aLo, .ref vSf, .ref vSm, .ref vCo, .ref vSh, .int 0, .int 0, .int 0]))] s₀.heap.size = A at hD ⊢
  have hA : ∀ q : Nat, s₀.heap.size ≤ q → A q := fun q h => by rw [← hAe]; exact Or.inr h
  have hS : va_S A s₀.heap s₀.heap [] := va_S.rf
  have hP : va_P (dC, dI) vwCl [(hx, .inr (10, [.ref aLa, .ref aPa, .ref aGe, .ref aFl, .ref aTr, .ref aBe, .ref aLu, .ref aLo, .ref vSf, .ref vSm, .ref vCo, .ref vSh, .int 0, .int 0, .int 0]))] s₀.heap := hP
  have hl := lv_entry ([.ref hx, .int k]) (n := 3) (Nat.le_of_ble_eq_true rfl)
  rw [lg_entry_eq]
  generalize (lg_sl ([.ref hx, .int k]) ++ List.replicate (3 - (lg_sl ([.ref hx, .int k])).length) Slot.unset).toArray = ls at hl ⊢
  have hl : lv_has ls 3 [(0, .ref hx), (1, .int k)] := hl
  obtain ⟨H, hH⟩ : ∃ z : Heap, z = s₀.heap := ⟨_, rfl⟩
  rw [← hH] at hP
  have hS : va_S A s₀.heap H [] := by rw [hH]; exact hS
  refine k_heap hH ?_
  have hD : va_D A [(hx, .inr (10, [.ref aLa, .ref aPa, .ref aGe, .ref aFl, .ref aTr, .ref aBe, .ref aLu, .ref aLo, .ref vSf, .ref vSm, .ref vCo, .ref vSh, .int 0, .int 0, .int 0]))] := hD
  obtain ⟨locs, hlo⟩ : ∃ z : List Loc, z = [] := ⟨_, rfl⟩
  rw [← hlo] at hS ⊢
  clear hlo hH hAe hD0
  refine lv_iload_n hx₀ hb dX11_learn_0 rfl (lv_at hl 1 rfl) ?_
  refine lv_if_lt (tgt := 10) hx₀ hb dX11_learn_1 (by decide) (fun c_1 => ?_) (fun c_1 => ?_)
  · refine lv_bipush (v := (-2)) hx₀ hb dX11_learn_10 (by decide +kernel) ?_
    exact W.iret (v := (-2)) hx₀ hb hr (fun t₀ ht hW => ⟨⟨(-2), (), rfl, (lf_x_learn_1 k c_1), trivial⟩, hS.F ht⟩) hS.2.2 dX11_learn_12
  · refine lv_iload_n hx₀ hb dX11_learn_4 rfl (lv_at hl 1 rfl) ?_
    refine lv_bipush (v := 64) hx₀ hb dX11_learn_5 (by decide +kernel) ?_
    refine lv_icmp_lt (tgt := 13) hx₀ hb dX11_learn_7 (by decide) (fun c_2 => ?_) (fun c_2 => ?_)
    · refine lv_aload_n hx₀ hb dX11_learn_13 rfl (lv_at hl 0 rfl) ?_
      refine va_get (D := (dC, dI)) (ci := 10) (v := .int 0) (C := RX11) (T := TX11) (N := 15) hx₀ hb hts inlX11 hown hK hP 0 rfl rfl 13 (by decide) (hts (.fieldLink RX11 146 "BittenStick" "learned" "I") wd_411) (fun _ h9 => h9) rfl dX11_learn_14 ?_
      refine lv_istore_n (lv' := [(2, .int 0), (0, .ref hx), (1, .int k)]) hx₀ hb dX11_learn_17 rfl hl (by decide) rfl (fun ls hl => ?_)
      refine lv_aload_n hx₀ hb dX11_learn_18 rfl (lv_at hl 1 rfl) ?_
      refine lv_iload_n hx₀ hb dX11_learn_19 rfl (lv_at hl 2 rfl) ?_
      refine va_put (D := (dC, dI)) (ci := 10) (v := .int k) (ty := .int) (C := RX11) (T := TX11) (N := 15) hx₀ hb hts inlX11 tyX11 tyX11_ok nmX11 hown hK hP hD hS 0 rfl rfl 13 (by decide) (hts (.fieldLink RX11 146 "BittenStick" "learned" "I") wd_411) (fun _ h9 => h9) rfl (by decide +kernel) rfl rfl (Nat.le_of_ble_eq_true rfl) dX11_learn_20 (fun H locs hP hD hS => ?_)
      have hP : va_P (dC, dI) vwCl [(hx, .inr (10, [.ref aLa, .ref aPa, .ref aGe, .ref aFl, .ref aTr, .ref aBe, .ref aLu, .ref aLo, .ref vSf, .ref vSm, .ref vCo, .ref vSh, .int 0, .int k, .int 0]))] H := hP
      have hD : va_D A [(hx, .inr (10, [.ref aLa, .ref aPa, .ref aGe, .ref aFl, .ref aTr, .ref aBe, .ref aLu, .ref aLo, .ref vSf, .ref vSm, .ref vCo, .ref vSh, .int 0, .int k, .int 0]))] := hD
      refine lv_iload_n hx₀ hb dX11_learn_23 rfl (lv_at hl 0 rfl) ?_
      exact W.iret (v := 0) hx₀ hb hr (fun t₀ ht hW => ⟨⟨0, (), rfl, (lf_x_learn_2 k c_1 c_2), trivial⟩, hS.F ht⟩) hS.2.2 dX11_learn_24
    · refine lv_bipush (v := (-2)) hx₀ hb dX11_learn_10 (by decide +kernel) ?_
      exact W.iret (v := (-2)) hx₀ hb hr (fun t₀ ht hW => ⟨⟨(-2), (), rfl, (lf_x_learn_3 k c_1 c_2), trivial⟩, hS.F ht⟩) hS.2.2 dX11_learn_12
set_option maxHeartbeats 4000000 in
set_option maxRecDepth 100000 in
theorem x_comes (l : Launch) (dC : Nat → ClassId) (dI : Nat → Nat → Nat) (cI cJ cQ : ClassId) (sz : Nat) (hx : Nat) (f : Int32) (w : Int32) (aLa : Nat) (aPa : Nat) (aGe : Nat) (aFl : Nat) (aTr : Nat) (aBe : Nat) (aLu : Nat) (aLo : Nat) (vSf : Nat) (vSm : Nat) (vCo : Nat) (vSh : Nat) (vFl : Nat) : Met l yX11_comes (kW yX11_comes cX11_comes 5 (some .int)) { frames := 1, cells := 0, slots := 0, locals := 21 } (kPre dC dI cI cJ cQ sz [.ref hx, .int f, .int w] [(hx, .inr (10, [.ref aLa, .ref aPa, .ref aGe, .ref aFl, .ref aTr, .ref aBe, .ref aLu, .ref aLo, .ref vSf, .ref vSm, .ref vCo, .ref vSh, .int 0, .int 0, .int 0])), (aFl, .inr (1, [.ref vFl, .int 0]))]) (va_Qi (fun (r : Int32) (_ : Unit) => r = -2) (fun _ _ => True) (va_A [(hx, .inr (10, [.ref aLa, .ref aPa, .ref aGe, .ref aFl, .ref aTr, .ref aBe, .ref aLu, .ref aLo, .ref vSf, .ref vSm, .ref vCo, .ref vSh, .int 0, .int 0, .int 0])), (aFl, .inr (1, [.ref vFl, .int 0]))] sz)) 0 0 (va_A [(hx, .inr (10, [.ref aLa, .ref aPa, .ref aGe, .ref aFl, .ref aTr, .ref aBe, .ref aLu, .ref aLo, .ref vSf, .ref vSm, .ref vCo, .ref vSh, .int 0, .int 0, .int 0])), (aFl, .inr (1, [.ref vFl, .int 0]))] sz) := by
  refine Met.ofW (cc := cX11_comes) (maxL := 5) (ret := (some .int)) (by decide) rfl ?_
  intro p₀ e₀ s₀ m₀ args below meth c₀ s₁ B hml hv₀
  obtain ⟨rfl, hsz, hP, hK, hD0, hN⟩ := hv₀
  have hx₀ := B.exec
  have hb := B.bytes
  have hr := B.returns
  have hts := atoms_spec (ws := (kW yX11_comes cX11_comes 5 (some .int))) B.pre
  have hts := fun w h => hts w (List.mem_cons_of_mem _ h)
  have hown : s₀.vm.findClass RX11 = some m₀.cls := findClass_of_methodNamed B.named
  have hlocks := B.notSynchronized
  subst hsz
  have hD := hD0.self (sz := s₀.heap.size)
  generalize hAe : va_A [(hx, .inr (10, [.ref aLa, .ref aPa, .ref aGe, .ref aFl, .ref aTr, .ref aBe, .ref aLu, .ref aLo, .ref vSf, .ref vSm, .ref vCo, .ref vSh, .int 0, .int 0, .int 0])), (aFl, .inr (1, [.ref vFl, .int 0]))] s₀.heap.size = A at hD ⊢
  have hA : ∀ q : Nat, s₀.heap.size ≤ q → A q := fun q h => by rw [← hAe]; exact Or.inr h
  have hS : va_S A s₀.heap s₀.heap [] := va_S.rf
  have hP : va_P (dC, dI) vwCl [(hx, .inr (10, [.ref aLa, .ref aPa, .ref aGe, .ref aFl, .ref aTr, .ref aBe, .ref aLu, .ref aLo, .ref vSf, .ref vSm, .ref vCo, .ref vSh, .int 0, .int 0, .int 0])), (aFl, .inr (1, [.ref vFl, .int 0]))] s₀.heap := hP
  have hl := lv_entry ([.ref hx, .int f, .int w]) (n := 5) (Nat.le_of_ble_eq_true rfl)
  rw [lg_entry_eq]
  generalize (lg_sl ([.ref hx, .int f, .int w]) ++ List.replicate (5 - (lg_sl ([.ref hx, .int f, .int w])).length) Slot.unset).toArray = ls at hl ⊢
  have hl : lv_has ls 5 [(0, .ref hx), (1, .int f), (2, .int w)] := hl
  obtain ⟨H, hH⟩ : ∃ z : Heap, z = s₀.heap := ⟨_, rfl⟩
  rw [← hH] at hP
  have hS : va_S A s₀.heap H [] := by rw [hH]; exact hS
  refine k_heap hH ?_
  have hD : va_D A [(hx, .inr (10, [.ref aLa, .ref aPa, .ref aGe, .ref aFl, .ref aTr, .ref aBe, .ref aLu, .ref aLo, .ref vSf, .ref vSm, .ref vCo, .ref vSh, .int 0, .int 0, .int 0])), (aFl, .inr (1, [.ref vFl, .int 0]))] := hD
  obtain ⟨locs, hlo⟩ : ∃ z : List Loc, z = [] := ⟨_, rfl⟩
  rw [← hlo] at hS ⊢
  clear hlo hH hAe hD0
  refine lv_aload_n hx₀ hb dX11_comes_0 rfl (lv_at hl 0 rfl) ?_
  refine va_get (D := (dC, dI)) (ci := 10) (v := .ref aFl) (C := RX11) (T := TX11) (N := 15) hx₀ hb hts inlX11 hown hK hP 0 rfl rfl 3 (by decide) (hts (.fieldLink RX11 33 "BittenStick" "flights" "LBittenStick$Flights;") wd_27) (fun _ h9 => h9) rfl dX11_comes_1 ?_
  refine lv_iload_n hx₀ hb dX11_comes_4 rfl (lv_at hl 1 rfl) ?_
  have hPc := hP.sub (ws' := [(aFl, .inr (1, [.ref vFl, .int 0]))]) [1] rfl
  have hDc := hD.sub (ws' := [(aFl, .inr (1, [.ref vFl, .int 0]))]) [1] (by decide) rfl
  have hFc := va_free (wc := [(aFl, .inr (1, [.ref vFl, .int 0]))]) hD hS hA [1] rfl
  refine va_calli (va_runV (As := [.int f]) (rest := []) ⟨hx₀, hb, hml, hown, hts⟩ (c_has0 l dC dI cI cJ cQ H.size aFl f vFl) (cwV 1 hts (kGV wd_426 wd_423 wd_424 wd_425 wd_26) rfl rfl rfl (by decide +kernel) ⟨Nat.le_of_ble_eq_true rfl, Nat.le_of_ble_eq_true rfl⟩) (k_preV (ci := 1) (q0 := 0) hK hPc hDc hN rfl rfl) rfl rfl hl.1 rfl (lv_room (Nat.le_of_ble_eq_true rfl)) dX11_comes_5 ⟨by decide +kernel, by decide +kernel⟩) hS (fun q _ h => hFc q h) hFc (fun r_1 u₀ t₀ H1 locs ht hvm hw hB hz1 hk1 hS => ?_)
  obtain ⟨hP1, hK1, hD1⟩ := hB
  rw [ht] at hP1
  obtain ⟨hP, hD⟩ := va_join (wr := [(hx, .inr (10, [.ref aLa, .ref aPa, .ref aGe, .ref aFl, .ref aTr, .ref aBe, .ref aLu, .ref aLo, .ref vSf, .ref vSm, .ref vCo, .ref vSh, .int 0, .int 0, .int 0]))]) (w1 := [(aFl, .inr (1, [.ref vFl, .int 0]))]) hP hD [1] [0] rfl rfl (by decide) (by decide) hk1 hFc hP1 hD1
  generalize H1 = H at hP hS ⊢
  have hP : va_P (dC, dI) vwCl [(hx, .inr (10, [.ref aLa, .ref aPa, .ref aGe, .ref aFl, .ref aTr, .ref aBe, .ref aLu, .ref aLo, .ref vSf, .ref vSm, .ref vCo, .ref vSh, .int 0, .int 0, .int 0])), (aFl, .inr (1, [.ref vFl, .int 0]))] H := hP
  have hD : va_D A [(hx, .inr (10, [.ref aLa, .ref aPa, .ref aGe, .ref aFl, .ref aTr, .ref aBe, .ref aLu, .ref aLo, .ref vSf, .ref vSm, .ref vCo, .ref vSh, .int 0, .int 0, .int 0])), (aFl, .inr (1, [.ref vFl, .int 0]))] := hD
  try dsimp only at hw
  refine k_topi (v := 0) hw ?_
  refine lv_if_eq (tgt := 20) hx₀ hb dX11_comes_8 (by decide) (fun _ => ?_) (fun c9 => absurd (by decide +kernel) c9)
  refine lv_bipush (v := (-2)) hx₀ hb dX11_comes_20 (by decide +kernel) ?_
  exact W.iret (v := (-2)) hx₀ hb hr (fun t₀ ht hW => ⟨⟨(-2), (), rfl, (by decide +kernel), trivial⟩, hS.F ht⟩) hS.2.2 dX11_comes_22
set_option maxHeartbeats 4000000 in
set_option maxRecDepth 100000 in
theorem x_climb (l : Launch) (dC : Nat → ClassId) (dI : Nat → Nat → Nat) (cI cJ cQ : ClassId) (sz : Nat) (hx : Nat) (f : Int32) (w : Int32) (aLa : Nat) (aPa : Nat) (aGe : Nat) (aFl : Nat) (aTr : Nat) (aBe : Nat) (aLu : Nat) (aLo : Nat) (vSf : Nat) (vSm : Nat) (vCo : Nat) (vSh : Nat) (vFl : Nat) : Met l yX11_climb (kW yX11_climb cX11_climb 3 (some .int)) { frames := 1, cells := 0, slots := 0, locals := 21 } (kPre dC dI cI cJ cQ sz [.ref hx, .int f, .int w] [(hx, .inr (10, [.ref aLa, .ref aPa, .ref aGe, .ref aFl, .ref aTr, .ref aBe, .ref aLu, .ref aLo, .ref vSf, .ref vSm, .ref vCo, .ref vSh, .int 0, .int 0, .int 0])), (aFl, .inr (1, [.ref vFl, .int 0]))]) (va_Qi (fun (r : Int32) (_ : Unit) => r = -2) (fun _ _ => True) (va_A [(hx, .inr (10, [.ref aLa, .ref aPa, .ref aGe, .ref aFl, .ref aTr, .ref aBe, .ref aLu, .ref aLo, .ref vSf, .ref vSm, .ref vCo, .ref vSh, .int 0, .int 0, .int 0])), (aFl, .inr (1, [.ref vFl, .int 0]))] sz)) 0 0 (va_A [(hx, .inr (10, [.ref aLa, .ref aPa, .ref aGe, .ref aFl, .ref aTr, .ref aBe, .ref aLu, .ref aLo, .ref vSf, .ref vSm, .ref vCo, .ref vSh, .int 0, .int 0, .int 0])), (aFl, .inr (1, [.ref vFl, .int 0]))] sz) := by
  refine Met.ofW (cc := cX11_climb) (maxL := 3) (ret := (some .int)) (by decide) rfl ?_
  intro p₀ e₀ s₀ m₀ args below meth c₀ s₁ B hml hv₀
  obtain ⟨rfl, hsz, hP, hK, hD0, hN⟩ := hv₀
  have hx₀ := B.exec
  have hb := B.bytes
  have hr := B.returns
  have hts := atoms_spec (ws := (kW yX11_climb cX11_climb 3 (some .int))) B.pre
  have hts := fun w h => hts w (List.mem_cons_of_mem _ h)
  have hown : s₀.vm.findClass RX11 = some m₀.cls := findClass_of_methodNamed B.named
  have hlocks := B.notSynchronized
  subst hsz
  have hD := hD0.self (sz := s₀.heap.size)
  generalize hAe : va_A [(hx, .inr (10, [.ref aLa, .ref aPa, .ref aGe, .ref aFl, .ref aTr, .ref aBe, .ref aLu, .ref aLo, .ref vSf, .ref vSm, .ref vCo, .ref vSh, .int 0, .int 0, .int 0])), (aFl, .inr (1, [.ref vFl, .int 0]))] s₀.heap.size = A at hD ⊢
  have hA : ∀ q : Nat, s₀.heap.size ≤ q → A q := fun q h => by rw [← hAe]; exact Or.inr h
  have hS : va_S A s₀.heap s₀.heap [] := va_S.rf
  have hP : va_P (dC, dI) vwCl [(hx, .inr (10, [.ref aLa, .ref aPa, .ref aGe, .ref aFl, .ref aTr, .ref aBe, .ref aLu, .ref aLo, .ref vSf, .ref vSm, .ref vCo, .ref vSh, .int 0, .int 0, .int 0])), (aFl, .inr (1, [.ref vFl, .int 0]))] s₀.heap := hP
  have hl := lv_entry ([.ref hx, .int f, .int w]) (n := 3) (Nat.le_of_ble_eq_true rfl)
  rw [lg_entry_eq]
  generalize (lg_sl ([.ref hx, .int f, .int w]) ++ List.replicate (3 - (lg_sl ([.ref hx, .int f, .int w])).length) Slot.unset).toArray = ls at hl ⊢
  have hl : lv_has ls 3 [(0, .ref hx), (1, .int f), (2, .int w)] := hl
  obtain ⟨H, hH⟩ : ∃ z : Heap, z = s₀.heap := ⟨_, rfl⟩
  rw [← hH] at hP
  have hS : va_S A s₀.heap H [] := by rw [hH]; exact hS
  refine k_heap hH ?_
  have hD : va_D A [(hx, .inr (10, [.ref aLa, .ref aPa, .ref aGe, .ref aFl, .ref aTr, .ref aBe, .ref aLu, .ref aLo, .ref vSf, .ref vSm, .ref vCo, .ref vSh, .int 0, .int 0, .int 0])), (aFl, .inr (1, [.ref vFl, .int 0]))] := hD
  obtain ⟨locs, hlo⟩ : ∃ z : List Loc, z = [] := ⟨_, rfl⟩
  rw [← hlo] at hS ⊢
  clear hlo hH hAe hD0
  refine lv_aload_n hx₀ hb dX11_climb_0 rfl (lv_at hl 0 rfl) ?_
  refine va_get (D := (dC, dI)) (ci := 10) (v := .ref aFl) (C := RX11) (T := TX11) (N := 15) hx₀ hb hts inlX11 hown hK hP 0 rfl rfl 3 (by decide) (hts (.fieldLink RX11 33 "BittenStick" "flights" "LBittenStick$Flights;") wd_27) (fun _ h9 => h9) rfl dX11_climb_1 ?_
  refine lv_iload_n hx₀ hb dX11_climb_4 rfl (lv_at hl 1 rfl) ?_
  have hPc := hP.sub (ws' := [(aFl, .inr (1, [.ref vFl, .int 0]))]) [1] rfl
  have hDc := hD.sub (ws' := [(aFl, .inr (1, [.ref vFl, .int 0]))]) [1] (by decide) rfl
  have hFc := va_free (wc := [(aFl, .inr (1, [.ref vFl, .int 0]))]) hD hS hA [1] rfl
  refine va_calli (va_runV (As := [.int f]) (rest := []) ⟨hx₀, hb, hml, hown, hts⟩ (c_has0 l dC dI cI cJ cQ H.size aFl f vFl) (cwV 1 hts (kGV wd_426 wd_423 wd_424 wd_425 wd_26) rfl rfl rfl (by decide +kernel) ⟨Nat.le_of_ble_eq_true rfl, Nat.le_of_ble_eq_true rfl⟩) (k_preV (ci := 1) (q0 := 0) hK hPc hDc hN rfl rfl) rfl rfl hl.1 rfl (lv_room (Nat.le_of_ble_eq_true rfl)) dX11_climb_5 ⟨by decide +kernel, by decide +kernel⟩) hS (fun q _ h => hFc q h) hFc (fun r_1 u₀ t₀ H1 locs ht hvm hw hB hz1 hk1 hS => ?_)
  obtain ⟨hP1, hK1, hD1⟩ := hB
  rw [ht] at hP1
  obtain ⟨hP, hD⟩ := va_join (wr := [(hx, .inr (10, [.ref aLa, .ref aPa, .ref aGe, .ref aFl, .ref aTr, .ref aBe, .ref aLu, .ref aLo, .ref vSf, .ref vSm, .ref vCo, .ref vSh, .int 0, .int 0, .int 0]))]) (w1 := [(aFl, .inr (1, [.ref vFl, .int 0]))]) hP hD [1] [0] rfl rfl (by decide) (by decide) hk1 hFc hP1 hD1
  generalize H1 = H at hP hS ⊢
  have hP : va_P (dC, dI) vwCl [(hx, .inr (10, [.ref aLa, .ref aPa, .ref aGe, .ref aFl, .ref aTr, .ref aBe, .ref aLu, .ref aLo, .ref vSf, .ref vSm, .ref vCo, .ref vSh, .int 0, .int 0, .int 0])), (aFl, .inr (1, [.ref vFl, .int 0]))] H := hP
  have hD : va_D A [(hx, .inr (10, [.ref aLa, .ref aPa, .ref aGe, .ref aFl, .ref aTr, .ref aBe, .ref aLu, .ref aLo, .ref vSf, .ref vSm, .ref vCo, .ref vSh, .int 0, .int 0, .int 0])), (aFl, .inr (1, [.ref vFl, .int 0]))] := hD
  try dsimp only at hw
  refine k_topi (v := 0) hw ?_
  refine lv_if_eq (tgt := 21) hx₀ hb dX11_climb_8 (by decide) (fun _ => ?_) (fun c9 => absurd (by decide +kernel) c9)
  refine lv_bipush (v := (-2)) hx₀ hb dX11_climb_21 (by decide +kernel) ?_
  exact W.iret (v := (-2)) hx₀ hb hr (fun t₀ ht hW => ⟨⟨(-2), (), rfl, (by decide +kernel), trivial⟩, hS.F ht⟩) hS.2.2 dX11_climb_23
set_option maxHeartbeats 4000000 in
set_option maxRecDepth 100000 in
theorem x_practice (l : Launch) (dC : Nat → ClassId) (dI : Nat → Nat → Nat) (cI cJ cQ : ClassId) (sz : Nat) (hx : Nat) (f : Int32) (w : Int32) (aLa : Nat) (aPa : Nat) (aGe : Nat) (aFl : Nat) (aTr : Nat) (aBe : Nat) (aLu : Nat) (aLo : Nat) (vSf : Nat) (vSm : Nat) (vCo : Nat) (vSh : Nat) (vFl : Nat) : Met l yX11_practice (kW yX11_practice cX11_practice 7 (some .int)) { frames := 1, cells := 0, slots := 0, locals := 21 } (kPre dC dI cI cJ cQ sz [.ref hx, .int f, .int w] [(hx, .inr (10, [.ref aLa, .ref aPa, .ref aGe, .ref aFl, .ref aTr, .ref aBe, .ref aLu, .ref aLo, .ref vSf, .ref vSm, .ref vCo, .ref vSh, .int 0, .int 0, .int 0])), (aFl, .inr (1, [.ref vFl, .int 0]))]) (va_Qi (fun (r : Int32) (_ : Unit) => r = -2) (fun _ _ => True) (va_A [(hx, .inr (10, [.ref aLa, .ref aPa, .ref aGe, .ref aFl, .ref aTr, .ref aBe, .ref aLu, .ref aLo, .ref vSf, .ref vSm, .ref vCo, .ref vSh, .int 0, .int 0, .int 0])), (aFl, .inr (1, [.ref vFl, .int 0]))] sz)) 0 0 (va_A [(hx, .inr (10, [.ref aLa, .ref aPa, .ref aGe, .ref aFl, .ref aTr, .ref aBe, .ref aLu, .ref aLo, .ref vSf, .ref vSm, .ref vCo, .ref vSh, .int 0, .int 0, .int 0])), (aFl, .inr (1, [.ref vFl, .int 0]))] sz) := by
  refine Met.ofW (cc := cX11_practice) (maxL := 7) (ret := (some .int)) (by decide) rfl ?_
  intro p₀ e₀ s₀ m₀ args below meth c₀ s₁ B hml hv₀
  obtain ⟨rfl, hsz, hP, hK, hD0, hN⟩ := hv₀
  have hx₀ := B.exec
  have hb := B.bytes
  have hr := B.returns
  have hts := atoms_spec (ws := (kW yX11_practice cX11_practice 7 (some .int))) B.pre
  have hts := fun w h => hts w (List.mem_cons_of_mem _ h)
  have hown : s₀.vm.findClass RX11 = some m₀.cls := findClass_of_methodNamed B.named
  have hlocks := B.notSynchronized
  subst hsz
  have hD := hD0.self (sz := s₀.heap.size)
  generalize hAe : va_A [(hx, .inr (10, [.ref aLa, .ref aPa, .ref aGe, .ref aFl, .ref aTr, .ref aBe, .ref aLu, .ref aLo, .ref vSf, .ref vSm, .ref vCo, .ref vSh, .int 0, .int 0, .int 0])), (aFl, .inr (1, [.ref vFl, .int 0]))] s₀.heap.size = A at hD ⊢
  have hA : ∀ q : Nat, s₀.heap.size ≤ q → A q := fun q h => by rw [← hAe]; exact Or.inr h
  have hS : va_S A s₀.heap s₀.heap [] := va_S.rf
  have hP : va_P (dC, dI) vwCl [(hx, .inr (10, [.ref aLa, .ref aPa, .ref aGe, .ref aFl, .ref aTr, .ref aBe, .ref aLu, .ref aLo, .ref vSf, .ref vSm, .ref vCo, .ref vSh, .int 0, .int 0, .int 0])), (aFl, .inr (1, [.ref vFl, .int 0]))] s₀.heap := hP
  have hl := lv_entry ([.ref hx, .int f, .int w]) (n := 7) (Nat.le_of_ble_eq_true rfl)
  rw [lg_entry_eq]
  generalize (lg_sl ([.ref hx, .int f, .int w]) ++ List.replicate (7 - (lg_sl ([.ref hx, .int f, .int w])).length) Slot.unset).toArray = ls at hl ⊢
  have hl : lv_has ls 7 [(0, .ref hx), (1, .int f), (2, .int w)] := hl
  obtain ⟨H, hH⟩ : ∃ z : Heap, z = s₀.heap := ⟨_, rfl⟩
  rw [← hH] at hP
  have hS : va_S A s₀.heap H [] := by rw [hH]; exact hS
  refine k_heap hH ?_
  have hD : va_D A [(hx, .inr (10, [.ref aLa, .ref aPa, .ref aGe, .ref aFl, .ref aTr, .ref aBe, .ref aLu, .ref aLo, .ref vSf, .ref vSm, .ref vCo, .ref vSh, .int 0, .int 0, .int 0])), (aFl, .inr (1, [.ref vFl, .int 0]))] := hD
  obtain ⟨locs, hlo⟩ : ∃ z : List Loc, z = [] := ⟨_, rfl⟩
  rw [← hlo] at hS ⊢
  clear hlo hH hAe hD0
  refine lv_aload_n hx₀ hb dX11_practice_0 rfl (lv_at hl 0 rfl) ?_
  refine va_get (D := (dC, dI)) (ci := 10) (v := .ref aFl) (C := RX11) (T := TX11) (N := 15) hx₀ hb hts inlX11 hown hK hP 0 rfl rfl 3 (by decide) (hts (.fieldLink RX11 33 "BittenStick" "flights" "LBittenStick$Flights;") wd_27) (fun _ h9 => h9) rfl dX11_practice_1 ?_
  refine lv_iload_n hx₀ hb dX11_practice_4 rfl (lv_at hl 1 rfl) ?_
  have hPc := hP.sub (ws' := [(aFl, .inr (1, [.ref vFl, .int 0]))]) [1] rfl
  have hDc := hD.sub (ws' := [(aFl, .inr (1, [.ref vFl, .int 0]))]) [1] (by decide) rfl
  have hFc := va_free (wc := [(aFl, .inr (1, [.ref vFl, .int 0]))]) hD hS hA [1] rfl
  refine va_calli (va_runV (As := [.int f]) (rest := []) ⟨hx₀, hb, hml, hown, hts⟩ (c_has0 l dC dI cI cJ cQ H.size aFl f vFl) (cwV 1 hts (kGV wd_426 wd_423 wd_424 wd_425 wd_26) rfl rfl rfl (by decide +kernel) ⟨Nat.le_of_ble_eq_true rfl, Nat.le_of_ble_eq_true rfl⟩) (k_preV (ci := 1) (q0 := 0) hK hPc hDc hN rfl rfl) rfl rfl hl.1 rfl (lv_room (Nat.le_of_ble_eq_true rfl)) dX11_practice_5 ⟨by decide +kernel, by decide +kernel⟩) hS (fun q _ h => hFc q h) hFc (fun r_1 u₀ t₀ H1 locs ht hvm hw hB hz1 hk1 hS => ?_)
  obtain ⟨hP1, hK1, hD1⟩ := hB
  rw [ht] at hP1
  obtain ⟨hP, hD⟩ := va_join (wr := [(hx, .inr (10, [.ref aLa, .ref aPa, .ref aGe, .ref aFl, .ref aTr, .ref aBe, .ref aLu, .ref aLo, .ref vSf, .ref vSm, .ref vCo, .ref vSh, .int 0, .int 0, .int 0]))]) (w1 := [(aFl, .inr (1, [.ref vFl, .int 0]))]) hP hD [1] [0] rfl rfl (by decide) (by decide) hk1 hFc hP1 hD1
  generalize H1 = H at hP hS ⊢
  have hP : va_P (dC, dI) vwCl [(hx, .inr (10, [.ref aLa, .ref aPa, .ref aGe, .ref aFl, .ref aTr, .ref aBe, .ref aLu, .ref aLo, .ref vSf, .ref vSm, .ref vCo, .ref vSh, .int 0, .int 0, .int 0])), (aFl, .inr (1, [.ref vFl, .int 0]))] H := hP
  have hD : va_D A [(hx, .inr (10, [.ref aLa, .ref aPa, .ref aGe, .ref aFl, .ref aTr, .ref aBe, .ref aLu, .ref aLo, .ref vSf, .ref vSm, .ref vCo, .ref vSh, .int 0, .int 0, .int 0])), (aFl, .inr (1, [.ref vFl, .int 0]))] := hD
  try dsimp only at hw
  refine k_topi (v := 0) hw ?_
  refine lv_if_eq (tgt := 20) hx₀ hb dX11_practice_8 (by decide) (fun _ => ?_) (fun c9 => absurd (by decide +kernel) c9)
  refine lv_bipush (v := (-2)) hx₀ hb dX11_practice_20 (by decide +kernel) ?_
  exact W.iret (v := (-2)) hx₀ hb hr (fun t₀ ht hW => ⟨⟨(-2), (), rfl, (by decide +kernel), trivial⟩, hS.F ht⟩) hS.2.2 dX11_practice_22
set_option maxHeartbeats 4000000 in
set_option maxRecDepth 100000 in
theorem x_pair (l : Launch) (dC : Nat → ClassId) (dI : Nat → Nat → Nat) (cI cJ cQ : ClassId) (sz : Nat) (hx : Nat) (f : Int32) (w : Int32) (aLa : Nat) (aPa : Nat) (aGe : Nat) (aFl : Nat) (aTr : Nat) (aBe : Nat) (aLu : Nat) (aLo : Nat) (vSf : Nat) (vSm : Nat) (vCo : Nat) (vSh : Nat) (vFl : Nat) : Met l yX11_pair (kW yX11_pair cX11_pair 8 (some .int)) { frames := 1, cells := 0, slots := 0, locals := 21 } (kPre dC dI cI cJ cQ sz [.ref hx, .int f, .int w] [(hx, .inr (10, [.ref aLa, .ref aPa, .ref aGe, .ref aFl, .ref aTr, .ref aBe, .ref aLu, .ref aLo, .ref vSf, .ref vSm, .ref vCo, .ref vSh, .int 0, .int 0, .int 0])), (aFl, .inr (1, [.ref vFl, .int 0]))]) (va_Qi (fun (r : Int32) (_ : Unit) => r = -2) (fun _ _ => True) (va_A [(hx, .inr (10, [.ref aLa, .ref aPa, .ref aGe, .ref aFl, .ref aTr, .ref aBe, .ref aLu, .ref aLo, .ref vSf, .ref vSm, .ref vCo, .ref vSh, .int 0, .int 0, .int 0])), (aFl, .inr (1, [.ref vFl, .int 0]))] sz)) 0 0 (va_A [(hx, .inr (10, [.ref aLa, .ref aPa, .ref aGe, .ref aFl, .ref aTr, .ref aBe, .ref aLu, .ref aLo, .ref vSf, .ref vSm, .ref vCo, .ref vSh, .int 0, .int 0, .int 0])), (aFl, .inr (1, [.ref vFl, .int 0]))] sz) := by
  refine Met.ofW (cc := cX11_pair) (maxL := 8) (ret := (some .int)) (by decide) rfl ?_
  intro p₀ e₀ s₀ m₀ args below meth c₀ s₁ B hml hv₀
  obtain ⟨rfl, hsz, hP, hK, hD0, hN⟩ := hv₀
  have hx₀ := B.exec
  have hb := B.bytes
  have hr := B.returns
  have hts := atoms_spec (ws := (kW yX11_pair cX11_pair 8 (some .int))) B.pre
  have hts := fun w h => hts w (List.mem_cons_of_mem _ h)
  have hown : s₀.vm.findClass RX11 = some m₀.cls := findClass_of_methodNamed B.named
  have hlocks := B.notSynchronized
  subst hsz
  have hD := hD0.self (sz := s₀.heap.size)
  generalize hAe : va_A [(hx, .inr (10, [.ref aLa, .ref aPa, .ref aGe, .ref aFl, .ref aTr, .ref aBe, .ref aLu, .ref aLo, .ref vSf, .ref vSm, .ref vCo, .ref vSh, .int 0, .int 0, .int 0])), (aFl, .inr (1, [.ref vFl, .int 0]))] s₀.heap.size = A at hD ⊢
  have hA : ∀ q : Nat, s₀.heap.size ≤ q → A q := fun q h => by rw [← hAe]; exact Or.inr h
  have hS : va_S A s₀.heap s₀.heap [] := va_S.rf
  have hP : va_P (dC, dI) vwCl [(hx, .inr (10, [.ref aLa, .ref aPa, .ref aGe, .ref aFl, .ref aTr, .ref aBe, .ref aLu, .ref aLo, .ref vSf, .ref vSm, .ref vCo, .ref vSh, .int 0, .int 0, .int 0])), (aFl, .inr (1, [.ref vFl, .int 0]))] s₀.heap := hP
  have hl := lv_entry ([.ref hx, .int f, .int w]) (n := 8) (Nat.le_of_ble_eq_true rfl)
  rw [lg_entry_eq]
  generalize (lg_sl ([.ref hx, .int f, .int w]) ++ List.replicate (8 - (lg_sl ([.ref hx, .int f, .int w])).length) Slot.unset).toArray = ls at hl ⊢
  have hl : lv_has ls 8 [(0, .ref hx), (1, .int f), (2, .int w)] := hl
  obtain ⟨H, hH⟩ : ∃ z : Heap, z = s₀.heap := ⟨_, rfl⟩
  rw [← hH] at hP
  have hS : va_S A s₀.heap H [] := by rw [hH]; exact hS
  refine k_heap hH ?_
  have hD : va_D A [(hx, .inr (10, [.ref aLa, .ref aPa, .ref aGe, .ref aFl, .ref aTr, .ref aBe, .ref aLu, .ref aLo, .ref vSf, .ref vSm, .ref vCo, .ref vSh, .int 0, .int 0, .int 0])), (aFl, .inr (1, [.ref vFl, .int 0]))] := hD
  obtain ⟨locs, hlo⟩ : ∃ z : List Loc, z = [] := ⟨_, rfl⟩
  rw [← hlo] at hS ⊢
  clear hlo hH hAe hD0
  refine lv_aload_n hx₀ hb dX11_pair_0 rfl (lv_at hl 0 rfl) ?_
  refine va_get (D := (dC, dI)) (ci := 10) (v := .ref aFl) (C := RX11) (T := TX11) (N := 15) hx₀ hb hts inlX11 hown hK hP 0 rfl rfl 3 (by decide) (hts (.fieldLink RX11 33 "BittenStick" "flights" "LBittenStick$Flights;") wd_27) (fun _ h9 => h9) rfl dX11_pair_1 ?_
  refine lv_iload_n hx₀ hb dX11_pair_4 rfl (lv_at hl 1 rfl) ?_
  have hPc := hP.sub (ws' := [(aFl, .inr (1, [.ref vFl, .int 0]))]) [1] rfl
  have hDc := hD.sub (ws' := [(aFl, .inr (1, [.ref vFl, .int 0]))]) [1] (by decide) rfl
  have hFc := va_free (wc := [(aFl, .inr (1, [.ref vFl, .int 0]))]) hD hS hA [1] rfl
  refine va_calli (va_runV (As := [.int f]) (rest := []) ⟨hx₀, hb, hml, hown, hts⟩ (c_has0 l dC dI cI cJ cQ H.size aFl f vFl) (cwV 1 hts (kGV wd_426 wd_423 wd_424 wd_425 wd_26) rfl rfl rfl (by decide +kernel) ⟨Nat.le_of_ble_eq_true rfl, Nat.le_of_ble_eq_true rfl⟩) (k_preV (ci := 1) (q0 := 0) hK hPc hDc hN rfl rfl) rfl rfl hl.1 rfl (lv_room (Nat.le_of_ble_eq_true rfl)) dX11_pair_5 ⟨by decide +kernel, by decide +kernel⟩) hS (fun q _ h => hFc q h) hFc (fun r_1 u₀ t₀ H1 locs ht hvm hw hB hz1 hk1 hS => ?_)
  obtain ⟨hP1, hK1, hD1⟩ := hB
  rw [ht] at hP1
  obtain ⟨hP, hD⟩ := va_join (wr := [(hx, .inr (10, [.ref aLa, .ref aPa, .ref aGe, .ref aFl, .ref aTr, .ref aBe, .ref aLu, .ref aLo, .ref vSf, .ref vSm, .ref vCo, .ref vSh, .int 0, .int 0, .int 0]))]) (w1 := [(aFl, .inr (1, [.ref vFl, .int 0]))]) hP hD [1] [0] rfl rfl (by decide) (by decide) hk1 hFc hP1 hD1
  generalize H1 = H at hP hS ⊢
  have hP : va_P (dC, dI) vwCl [(hx, .inr (10, [.ref aLa, .ref aPa, .ref aGe, .ref aFl, .ref aTr, .ref aBe, .ref aLu, .ref aLo, .ref vSf, .ref vSm, .ref vCo, .ref vSh, .int 0, .int 0, .int 0])), (aFl, .inr (1, [.ref vFl, .int 0]))] H := hP
  have hD : va_D A [(hx, .inr (10, [.ref aLa, .ref aPa, .ref aGe, .ref aFl, .ref aTr, .ref aBe, .ref aLu, .ref aLo, .ref vSf, .ref vSm, .ref vCo, .ref vSh, .int 0, .int 0, .int 0])), (aFl, .inr (1, [.ref vFl, .int 0]))] := hD
  try dsimp only at hw
  refine k_topi (v := 0) hw ?_
  refine lv_if_eq (tgt := 20) hx₀ hb dX11_pair_8 (by decide) (fun _ => ?_) (fun c9 => absurd (by decide +kernel) c9)
  refine lv_bipush (v := (-2)) hx₀ hb dX11_pair_20 (by decide +kernel) ?_
  exact W.iret (v := (-2)) hx₀ hb hr (fun t₀ ht hW => ⟨⟨(-2), (), rfl, (by decide +kernel), trivial⟩, hS.F ht⟩) hS.2.2 dX11_pair_22
set_option maxHeartbeats 4000000 in
set_option maxRecDepth 100000 in
theorem x_high (l : Launch) (dC : Nat → ClassId) (dI : Nat → Nat → Nat) (cI cJ cQ : ClassId) (sz : Nat) (hx : Nat) (f : Int32) (aLa : Nat) (aPa : Nat) (aGe : Nat) (aFl : Nat) (aTr : Nat) (aBe : Nat) (aLu : Nat) (aLo : Nat) (vSf : Nat) (vSm : Nat) (vCo : Nat) (vSh : Nat) (vFl : Nat) : Met l yX11_high (kW yX11_high cX11_high 4 (some .int)) { frames := 1, cells := 0, slots := 0, locals := 21 } (kPre dC dI cI cJ cQ sz [.ref hx, .int f] [(hx, .inr (10, [.ref aLa, .ref aPa, .ref aGe, .ref aFl, .ref aTr, .ref aBe, .ref aLu, .ref aLo, .ref vSf, .ref vSm, .ref vCo, .ref vSh, .int 0, .int 0, .int 0])), (aFl, .inr (1, [.ref vFl, .int 0]))]) (va_Qi (fun (r : Int32) (_ : Unit) => r = -2) (fun _ _ => True) (va_A [(hx, .inr (10, [.ref aLa, .ref aPa, .ref aGe, .ref aFl, .ref aTr, .ref aBe, .ref aLu, .ref aLo, .ref vSf, .ref vSm, .ref vCo, .ref vSh, .int 0, .int 0, .int 0])), (aFl, .inr (1, [.ref vFl, .int 0]))] sz)) 0 0 (va_A [(hx, .inr (10, [.ref aLa, .ref aPa, .ref aGe, .ref aFl, .ref aTr, .ref aBe, .ref aLu, .ref aLo, .ref vSf, .ref vSm, .ref vCo, .ref vSh, .int 0, .int 0, .int 0])), (aFl, .inr (1, [.ref vFl, .int 0]))] sz) := by
  refine Met.ofW (cc := cX11_high) (maxL := 4) (ret := (some .int)) (by decide) rfl ?_
  intro p₀ e₀ s₀ m₀ args below meth c₀ s₁ B hml hv₀
  obtain ⟨rfl, hsz, hP, hK, hD0, hN⟩ := hv₀
  have hx₀ := B.exec
  have hb := B.bytes
  have hr := B.returns
  have hts := atoms_spec (ws := (kW yX11_high cX11_high 4 (some .int))) B.pre
  have hts := fun w h => hts w (List.mem_cons_of_mem _ h)
  have hown : s₀.vm.findClass RX11 = some m₀.cls := findClass_of_methodNamed B.named
  have hlocks := B.notSynchronized
  subst hsz
  have hD := hD0.self (sz := s₀.heap.size)
  generalize hAe : va_A [(hx, .inr (10, [.ref aLa, .ref aPa, .ref aGe, .ref aFl, .ref aTr, .ref aBe, .ref aLu, .ref aLo, .ref vSf, .ref vSm, .ref vCo, .ref vSh, .int 0, .int 0, .int 0])), (aFl, .inr (1, [.ref vFl, .int 0]))] s₀.heap.size = A at hD ⊢
  have hA : ∀ q : Nat, s₀.heap.size ≤ q → A q := fun q h => by rw [← hAe]; exact Or.inr h
  have hS : va_S A s₀.heap s₀.heap [] := va_S.rf
  have hP : va_P (dC, dI) vwCl [(hx, .inr (10, [.ref aLa, .ref aPa, .ref aGe, .ref aFl, .ref aTr, .ref aBe, .ref aLu, .ref aLo, .ref vSf, .ref vSm, .ref vCo, .ref vSh, .int 0, .int 0, .int 0])), (aFl, .inr (1, [.ref vFl, .int 0]))] s₀.heap := hP
  have hl := lv_entry ([.ref hx, .int f]) (n := 4) (Nat.le_of_ble_eq_true rfl)
  rw [lg_entry_eq]
  generalize (lg_sl ([.ref hx, .int f]) ++ List.replicate (4 - (lg_sl ([.ref hx, .int f])).length) Slot.unset).toArray = ls at hl ⊢
  have hl : lv_has ls 4 [(0, .ref hx), (1, .int f)] := hl
  obtain ⟨H, hH⟩ : ∃ z : Heap, z = s₀.heap := ⟨_, rfl⟩
  rw [← hH] at hP
  have hS : va_S A s₀.heap H [] := by rw [hH]; exact hS
  refine k_heap hH ?_
  have hD : va_D A [(hx, .inr (10, [.ref aLa, .ref aPa, .ref aGe, .ref aFl, .ref aTr, .ref aBe, .ref aLu, .ref aLo, .ref vSf, .ref vSm, .ref vCo, .ref vSh, .int 0, .int 0, .int 0])), (aFl, .inr (1, [.ref vFl, .int 0]))] := hD
  obtain ⟨locs, hlo⟩ : ∃ z : List Loc, z = [] := ⟨_, rfl⟩
  rw [← hlo] at hS ⊢
  clear hlo hH hAe hD0
  refine lv_aload_n hx₀ hb dX11_high_0 rfl (lv_at hl 0 rfl) ?_
  refine va_get (D := (dC, dI)) (ci := 10) (v := .ref aFl) (C := RX11) (T := TX11) (N := 15) hx₀ hb hts inlX11 hown hK hP 0 rfl rfl 3 (by decide) (hts (.fieldLink RX11 33 "BittenStick" "flights" "LBittenStick$Flights;") wd_27) (fun _ h9 => h9) rfl dX11_high_1 ?_
  refine lv_iload_n hx₀ hb dX11_high_4 rfl (lv_at hl 1 rfl) ?_
  have hPc := hP.sub (ws' := [(aFl, .inr (1, [.ref vFl, .int 0]))]) [1] rfl
  have hDc := hD.sub (ws' := [(aFl, .inr (1, [.ref vFl, .int 0]))]) [1] (by decide) rfl
  have hFc := va_free (wc := [(aFl, .inr (1, [.ref vFl, .int 0]))]) hD hS hA [1] rfl
  refine va_calli (va_runV (As := [.int f]) (rest := []) ⟨hx₀, hb, hml, hown, hts⟩ (c_has0 l dC dI cI cJ cQ H.size aFl f vFl) (cwV 1 hts (kGV wd_426 wd_423 wd_424 wd_425 wd_26) rfl rfl rfl (by decide +kernel) ⟨Nat.le_of_ble_eq_true rfl, Nat.le_of_ble_eq_true rfl⟩) (k_preV (ci := 1) (q0 := 0) hK hPc hDc hN rfl rfl) rfl rfl hl.1 rfl (lv_room (Nat.le_of_ble_eq_true rfl)) dX11_high_5 ⟨by decide +kernel, by decide +kernel⟩) hS (fun q _ h => hFc q h) hFc (fun r_1 u₀ t₀ H1 locs ht hvm hw hB hz1 hk1 hS => ?_)
  obtain ⟨hP1, hK1, hD1⟩ := hB
  rw [ht] at hP1
  obtain ⟨hP, hD⟩ := va_join (wr := [(hx, .inr (10, [.ref aLa, .ref aPa, .ref aGe, .ref aFl, .ref aTr, .ref aBe, .ref aLu, .ref aLo, .ref vSf, .ref vSm, .ref vCo, .ref vSh, .int 0, .int 0, .int 0]))]) (w1 := [(aFl, .inr (1, [.ref vFl, .int 0]))]) hP hD [1] [0] rfl rfl (by decide) (by decide) hk1 hFc hP1 hD1
  generalize H1 = H at hP hS ⊢
  have hP : va_P (dC, dI) vwCl [(hx, .inr (10, [.ref aLa, .ref aPa, .ref aGe, .ref aFl, .ref aTr, .ref aBe, .ref aLu, .ref aLo, .ref vSf, .ref vSm, .ref vCo, .ref vSh, .int 0, .int 0, .int 0])), (aFl, .inr (1, [.ref vFl, .int 0]))] H := hP
  have hD : va_D A [(hx, .inr (10, [.ref aLa, .ref aPa, .ref aGe, .ref aFl, .ref aTr, .ref aBe, .ref aLu, .ref aLo, .ref vSf, .ref vSm, .ref vCo, .ref vSh, .int 0, .int 0, .int 0])), (aFl, .inr (1, [.ref vFl, .int 0]))] := hD
  try dsimp only at hw
  refine k_topi (v := 0) hw ?_
  refine lv_if_ne (tgt := 14) hx₀ hb dX11_high_8 (by decide) (fun c9 => absurd (by decide +kernel) c9) (fun _ => ?_)
  refine lv_bipush (v := (-2)) hx₀ hb dX11_high_11 (by decide +kernel) ?_
  exact W.iret (v := (-2)) hx₀ hb hr (fun t₀ ht hW => ⟨⟨(-2), (), rfl, (by decide +kernel), trivial⟩, hS.F ht⟩) hS.2.2 dX11_high_13
set_option maxHeartbeats 4000000 in
set_option maxRecDepth 100000 in
theorem x_behind (l : Launch) (dC : Nat → ClassId) (dI : Nat → Nat → Nat) (cI cJ cQ : ClassId) (sz : Nat) (hx : Nat) (f : Int32) (k : Int32) (w : Int32) (aLa : Nat) (aPa : Nat) (aGe : Nat) (aFl : Nat) (aTr : Nat) (aBe : Nat) (aLu : Nat) (aLo : Nat) (vSf : Nat) (vSm : Nat) (vCo : Nat) (vSh : Nat) (vFl : Nat) : Met l yX11_behind (kW yX11_behind cX11_behind 4 (some .int)) { frames := 1, cells := 0, slots := 0, locals := 21 } (kPre dC dI cI cJ cQ sz [.ref hx, .int f, .int k, .int w] [(hx, .inr (10, [.ref aLa, .ref aPa, .ref aGe, .ref aFl, .ref aTr, .ref aBe, .ref aLu, .ref aLo, .ref vSf, .ref vSm, .ref vCo, .ref vSh, .int 0, .int 0, .int 0])), (aFl, .inr (1, [.ref vFl, .int 0]))]) (va_Qi (fun (r : Int32) (_ : Unit) => r = -2) (fun _ _ => True) (va_A [(hx, .inr (10, [.ref aLa, .ref aPa, .ref aGe, .ref aFl, .ref aTr, .ref aBe, .ref aLu, .ref aLo, .ref vSf, .ref vSm, .ref vCo, .ref vSh, .int 0, .int 0, .int 0])), (aFl, .inr (1, [.ref vFl, .int 0]))] sz)) 0 0 (va_A [(hx, .inr (10, [.ref aLa, .ref aPa, .ref aGe, .ref aFl, .ref aTr, .ref aBe, .ref aLu, .ref aLo, .ref vSf, .ref vSm, .ref vCo, .ref vSh, .int 0, .int 0, .int 0])), (aFl, .inr (1, [.ref vFl, .int 0]))] sz) := by
  refine Met.ofW (cc := cX11_behind) (maxL := 4) (ret := (some .int)) (by decide) rfl ?_
  intro p₀ e₀ s₀ m₀ args below meth c₀ s₁ B hml hv₀
  obtain ⟨rfl, hsz, hP, hK, hD0, hN⟩ := hv₀
  have hx₀ := B.exec
  have hb := B.bytes
  have hr := B.returns
  have hts := atoms_spec (ws := (kW yX11_behind cX11_behind 4 (some .int))) B.pre
  have hts := fun w h => hts w (List.mem_cons_of_mem _ h)
  have hown : s₀.vm.findClass RX11 = some m₀.cls := findClass_of_methodNamed B.named
  have hlocks := B.notSynchronized
  subst hsz
  have hD := hD0.self (sz := s₀.heap.size)
  generalize hAe : va_A [(hx, .inr (10, [.ref aLa, .ref aPa, .ref aGe, .ref aFl, .ref aTr, .ref aBe, .ref aLu, .ref aLo, .ref vSf, .ref vSm, .ref vCo, .ref vSh, .int 0, .int 0, .int 0])), (aFl, .inr (1, [.ref vFl, .int 0]))] s₀.heap.size = A at hD ⊢
  have hA : ∀ q : Nat, s₀.heap.size ≤ q → A q := fun q h => by rw [← hAe]; exact Or.inr h
  have hS : va_S A s₀.heap s₀.heap [] := va_S.rf
  have hP : va_P (dC, dI) vwCl [(hx, .inr (10, [.ref aLa, .ref aPa, .ref aGe, .ref aFl, .ref aTr, .ref aBe, .ref aLu, .ref aLo, .ref vSf, .ref vSm, .ref vCo, .ref vSh, .int 0, .int 0, .int 0])), (aFl, .inr (1, [.ref vFl, .int 0]))] s₀.heap := hP
  have hl := lv_entry ([.ref hx, .int f, .int k, .int w]) (n := 4) (Nat.le_of_ble_eq_true rfl)
  rw [lg_entry_eq]
  generalize (lg_sl ([.ref hx, .int f, .int k, .int w]) ++ List.replicate (4 - (lg_sl ([.ref hx, .int f, .int k, .int w])).length) Slot.unset).toArray = ls at hl ⊢
  have hl : lv_has ls 4 [(0, .ref hx), (1, .int f), (2, .int k), (3, .int w)] := hl
  obtain ⟨H, hH⟩ : ∃ z : Heap, z = s₀.heap := ⟨_, rfl⟩
  rw [← hH] at hP
  have hS : va_S A s₀.heap H [] := by rw [hH]; exact hS
  refine k_heap hH ?_
  have hD : va_D A [(hx, .inr (10, [.ref aLa, .ref aPa, .ref aGe, .ref aFl, .ref aTr, .ref aBe, .ref aLu, .ref aLo, .ref vSf, .ref vSm, .ref vCo, .ref vSh, .int 0, .int 0, .int 0])), (aFl, .inr (1, [.ref vFl, .int 0]))] := hD
  obtain ⟨locs, hlo⟩ : ∃ z : List Loc, z = [] := ⟨_, rfl⟩
  rw [← hlo] at hS ⊢
  clear hlo hH hAe hD0
  refine lv_aload_n hx₀ hb dX11_behind_0 rfl (lv_at hl 0 rfl) ?_
  refine va_get (D := (dC, dI)) (ci := 10) (v := .ref aFl) (C := RX11) (T := TX11) (N := 15) hx₀ hb hts inlX11 hown hK hP 0 rfl rfl 3 (by decide) (hts (.fieldLink RX11 33 "BittenStick" "flights" "LBittenStick$Flights;") wd_27) (fun _ h9 => h9) rfl dX11_behind_1 ?_
  refine lv_iload_n hx₀ hb dX11_behind_4 rfl (lv_at hl 1 rfl) ?_
  have hPc := hP.sub (ws' := [(aFl, .inr (1, [.ref vFl, .int 0]))]) [1] rfl
  have hDc := hD.sub (ws' := [(aFl, .inr (1, [.ref vFl, .int 0]))]) [1] (by decide) rfl
  have hFc := va_free (wc := [(aFl, .inr (1, [.ref vFl, .int 0]))]) hD hS hA [1] rfl
  refine va_calli (va_runV (As := [.int f]) (rest := []) ⟨hx₀, hb, hml, hown, hts⟩ (c_has0 l dC dI cI cJ cQ H.size aFl f vFl) (cwV 1 hts (kGV wd_426 wd_423 wd_424 wd_425 wd_26) rfl rfl rfl (by decide +kernel) ⟨Nat.le_of_ble_eq_true rfl, Nat.le_of_ble_eq_true rfl⟩) (k_preV (ci := 1) (q0 := 0) hK hPc hDc hN rfl rfl) rfl rfl hl.1 rfl (lv_room (Nat.le_of_ble_eq_true rfl)) dX11_behind_5 ⟨by decide +kernel, by decide +kernel⟩) hS (fun q _ h => hFc q h) hFc (fun r_1 u₀ t₀ H1 locs ht hvm hw hB hz1 hk1 hS => ?_)
  obtain ⟨hP1, hK1, hD1⟩ := hB
  rw [ht] at hP1
  obtain ⟨hP, hD⟩ := va_join (wr := [(hx, .inr (10, [.ref aLa, .ref aPa, .ref aGe, .ref aFl, .ref aTr, .ref aBe, .ref aLu, .ref aLo, .ref vSf, .ref vSm, .ref vCo, .ref vSh, .int 0, .int 0, .int 0]))]) (w1 := [(aFl, .inr (1, [.ref vFl, .int 0]))]) hP hD [1] [0] rfl rfl (by decide) (by decide) hk1 hFc hP1 hD1
  generalize H1 = H at hP hS ⊢
  have hP : va_P (dC, dI) vwCl [(hx, .inr (10, [.ref aLa, .ref aPa, .ref aGe, .ref aFl, .ref aTr, .ref aBe, .ref aLu, .ref aLo, .ref vSf, .ref vSm, .ref vCo, .ref vSh, .int 0, .int 0, .int 0])), (aFl, .inr (1, [.ref vFl, .int 0]))] H := hP
  have hD : va_D A [(hx, .inr (10, [.ref aLa, .ref aPa, .ref aGe, .ref aFl, .ref aTr, .ref aBe, .ref aLu, .ref aLo, .ref vSf, .ref vSm, .ref vCo, .ref vSh, .int 0, .int 0, .int 0])), (aFl, .inr (1, [.ref vFl, .int 0]))] := hD
  try dsimp only at hw
  refine k_topi (v := 0) hw ?_
  refine lv_if_eq (tgt := 31) hx₀ hb dX11_behind_8 (by decide) (fun _ => ?_) (fun c9 => absurd (by decide +kernel) c9)
  refine lv_bipush (v := (-2)) hx₀ hb dX11_behind_31 (by decide +kernel) ?_
  exact W.iret (v := (-2)) hx₀ hb hr (fun t₀ ht hW => ⟨⟨(-2), (), rfl, (by decide +kernel), trivial⟩, hS.F ht⟩) hS.2.2 dX11_behind_33
set_option maxHeartbeats 4000000 in
set_option maxRecDepth 100000 in
theorem x_farthest (l : Launch) (dC : Nat → ClassId) (dI : Nat → Nat → Nat) (cI cJ cQ : ClassId) (sz : Nat) (hx : Nat) (aLa : Nat) (aPa : Nat) (aGe : Nat) (aFl : Nat) (aTr : Nat) (aBe : Nat) (aLu : Nat) (aLo : Nat) (vSf : Nat) (vSm : Nat) (vCo : Nat) (vSh : Nat) (vFl : Nat) : Met l yX11_farthest (kW yX11_farthest cX11_farthest 6 (some .int)) { frames := 0, cells := 0, slots := 0, locals := 0 } (kPre dC dI cI cJ cQ sz [.ref hx] [(hx, .inr (10, [.ref aLa, .ref aPa, .ref aGe, .ref aFl, .ref aTr, .ref aBe, .ref aLu, .ref aLo, .ref vSf, .ref vSm, .ref vCo, .ref vSh, .int 0, .int 0, .int 0])), (aFl, .inr (1, [.ref vFl, .int 0]))]) (va_Qi (fun (r : Int32) (_ : Unit) => r = (-1)) (fun _ t₀ => kB dC dI cI cJ cQ (va_A [(hx, .inr (10, [.ref aLa, .ref aPa, .ref aGe, .ref aFl, .ref aTr, .ref aBe, .ref aLu, .ref aLo, .ref vSf, .ref vSm, .ref vCo, .ref vSh, .int 0, .int 0, .int 0])), (aFl, .inr (1, [.ref vFl, .int 0]))] sz) [(hx, .inr (10, [.ref aLa, .ref aPa, .ref aGe, .ref aFl, .ref aTr, .ref aBe, .ref aLu, .ref aLo, .ref vSf, .ref vSm, .ref vCo, .ref vSh, .int 0, .int 0, .int 0])), (aFl, .inr (1, [.ref vFl, .int 0]))] t₀) (va_A [(hx, .inr (10, [.ref aLa, .ref aPa, .ref aGe, .ref aFl, .ref aTr, .ref aBe, .ref aLu, .ref aLo, .ref vSf, .ref vSm, .ref vCo, .ref vSh, .int 0, .int 0, .int 0])), (aFl, .inr (1, [.ref vFl, .int 0]))] sz)) 0 0 (va_A [(hx, .inr (10, [.ref aLa, .ref aPa, .ref aGe, .ref aFl, .ref aTr, .ref aBe, .ref aLu, .ref aLo, .ref vSf, .ref vSm, .ref vCo, .ref vSh, .int 0, .int 0, .int 0])), (aFl, .inr (1, [.ref vFl, .int 0]))] sz) := by
  refine Met.ofW (cc := cX11_farthest) (maxL := 6) (ret := (some .int)) (by decide) rfl ?_
  intro p₀ e₀ s₀ m₀ args below meth c₀ s₁ B hml hv₀
  obtain ⟨rfl, hsz, hP, hK, hD0, hN⟩ := hv₀
  have hx₀ := B.exec
  have hb := B.bytes
  have hr := B.returns
  have hts := atoms_spec (ws := (kW yX11_farthest cX11_farthest 6 (some .int))) B.pre
  have hts := fun w h => hts w (List.mem_cons_of_mem _ h)
  have hown : s₀.vm.findClass RX11 = some m₀.cls := findClass_of_methodNamed B.named
  have hlocks := B.notSynchronized
  subst hsz
  have hD := hD0.self (sz := s₀.heap.size)
  generalize hAe : va_A [(hx, .inr (10, [.ref aLa, .ref aPa, .ref aGe, .ref aFl, .ref aTr, .ref aBe, .ref aLu, .ref aLo, .ref vSf, .ref vSm, .ref vCo, .ref vSh, .int 0, .int 0, .int 0])), (aFl, .inr (1, [.ref vFl, .int 0]))] s₀.heap.size = A at hD ⊢
  have hA : ∀ q : Nat, s₀.heap.size ≤ q → A q := fun q h => by rw [← hAe]; exact Or.inr h
  have hS : va_S A s₀.heap s₀.heap [] := va_S.rf
  have hP : va_P (dC, dI) vwCl [(hx, .inr (10, [.ref aLa, .ref aPa, .ref aGe, .ref aFl, .ref aTr, .ref aBe, .ref aLu, .ref aLo, .ref vSf, .ref vSm, .ref vCo, .ref vSh, .int 0, .int 0, .int 0])), (aFl, .inr (1, [.ref vFl, .int 0]))] s₀.heap := hP
  have hl := lv_entry ([.ref hx]) (n := 6) (Nat.le_of_ble_eq_true rfl)
  rw [lg_entry_eq]
  generalize (lg_sl ([.ref hx]) ++ List.replicate (6 - (lg_sl ([.ref hx])).length) Slot.unset).toArray = ls at hl ⊢
  have hl : lv_has ls 6 [(0, .ref hx)] := hl
  obtain ⟨H, hH⟩ : ∃ z : Heap, z = s₀.heap := ⟨_, rfl⟩
  rw [← hH] at hP
  have hS : va_S A s₀.heap H [] := by rw [hH]; exact hS
  refine k_heap hH ?_
  have hD : va_D A [(hx, .inr (10, [.ref aLa, .ref aPa, .ref aGe, .ref aFl, .ref aTr, .ref aBe, .ref aLu, .ref aLo, .ref vSf, .ref vSm, .ref vCo, .ref vSh, .int 0, .int 0, .int 0])), (aFl, .inr (1, [.ref vFl, .int 0]))] := hD
  obtain ⟨locs, hlo⟩ : ∃ z : List Loc, z = [] := ⟨_, rfl⟩
  rw [← hlo] at hS ⊢
  clear hlo hH hAe hD0
  refine lv_iconst (v := (-1)) hx₀ hb dX11_farthest_0 (by decide +kernel) ?_
  refine lv_istore_n (lv' := [(1, .int (-1)), (0, .ref hx)]) hx₀ hb dX11_farthest_1 rfl hl (by decide) rfl (fun ls hl => ?_)
  refine lv_iconst (v := (-1)) hx₀ hb dX11_farthest_2 (by decide +kernel) ?_
  refine lv_istore_n (lv' := [(2, .int (-1)), (1, .int (-1)), (0, .ref hx)]) hx₀ hb dX11_farthest_3 rfl hl (by decide) rfl (fun ls hl => ?_)
  refine lv_iconst (v := 0) hx₀ hb dX11_farthest_4 (by decide +kernel) ?_
  refine lv_istore_n (lv' := [(3, .int 0), (2, .int (-1)), (1, .int (-1)), (0, .ref hx)]) hx₀ hb dX11_farthest_5 rfl hl (by decide) rfl (fun ls hl => ?_)
  refine lv_iload_n hx₀ hb dX11_farthest_6 rfl (lv_at hl 0 rfl) ?_
  refine lv_aload_n hx₀ hb dX11_farthest_7 rfl (lv_at hl 3 rfl) ?_
  refine va_get (D := (dC, dI)) (ci := 10) (v := .ref aFl) (C := RX11) (T := TX11) (N := 15) hx₀ hb hts inlX11 hown hK hP 0 rfl rfl 3 (by decide) (hts (.fieldLink RX11 33 "BittenStick" "flights" "LBittenStick$Flights;") wd_27) (fun _ h9 => h9) rfl dX11_farthest_8 ?_
  refine va_get (D := (dC, dI)) (ci := 1) (v := .int 0) (C := RX1) (T := TX1) (N := 2) hx₀ hb hts inlX1 hown hK hP 1 rfl rfl 1 (by decide) (hts (.fieldLink RX11 128 "BittenStick$Flights" "number" "I") wd_369) (fun _ h9 => h9) rfl dX11_farthest_11 ?_
  refine lv_icmp_ge (tgt := 78) hx₀ hb dX11_farthest_14 (by decide) (fun _ => ?_) (fun c9 => absurd (by decide +kernel) c9)
  refine lv_iload_n hx₀ hb dX11_farthest_78 rfl (lv_at hl 2 rfl) ?_
  have hP9 := hP.sub (ws' := [(hx, .inr (10, [.ref aLa, .ref aPa, .ref aGe, .ref aFl, .ref aTr, .ref aBe, .ref aLu, .ref aLo, .ref vSf, .ref vSm, .ref vCo, .ref vSh, .int 0, .int 0, .int 0])), (aFl, .inr (1, [.ref vFl, .int 0]))]) [0, 1] rfl
  have hD9 := hD.sub (ws' := [(hx, .inr (10, [.ref aLa, .ref aPa, .ref aGe, .ref aFl, .ref aTr, .ref aBe, .ref aLu, .ref aLo, .ref vSf, .ref vSm, .ref vCo, .ref vSh, .int 0, .int 0, .int 0])), (aFl, .inr (1, [.ref vFl, .int 0]))]) [0, 1] (by decide) rfl
  exact W.iret (v := (-1)) hx₀ hb hr (fun t₀ ht hW => ⟨⟨(-1), (), rfl, rfl, by rw [ht]; exact hP9, va_K.moved hW.alike hK, hD9⟩, hS.F ht⟩) hS.2.2 dX11_farthest_79
theorem lf_x_seen_1 (f : Int32) (k : Int32) (c_1 : f < 0) : ((-2) : Int32) = if 0 ≤ f ∧ f ≤ 7 ∧ 0 ≤ k ∧ k ≤ 24 then 1 else -2 := by
  repeat first | rfl | rw [if_pos (by (first | omega | (simp only [Int64.le_iff_toInt_le, Int64.lt_iff_toInt_lt, Int32.le_iff_toInt_le, Int32.lt_iff_toInt_lt, ← Int32.toInt_inj, ← Int64.toInt_inj, Int32.toInt_toInt64, (show (-2 : Int32).toInt = -2 from by decide), (show (-2 : Int64).toInt = -2 from by decide), (show (0 : Int32).toInt = 0 from by decide), (show (0 : Int64).toInt = 0 from by decide), (show (1 : Int32).toInt = 1 from by decide), (show (1 : Int64).toInt = 1 from by decide), (show (7 : Int32).toInt = 7 from by decide), (show (7 : Int64).toInt = 7 from by decide), (show (24 : Int32).toInt = 24 from by decide), (show (24 : Int64).toInt = 24 from by decide)] at *; omega)))] | rw [if_neg (by (first | omega | (simp only [Int64.le_iff_toInt_le, Int64.lt_iff_toInt_lt, Int32.le_iff_toInt_le, Int32.lt_iff_toInt_lt, ← Int32.toInt_inj, ← Int64.toInt_inj, Int32.toInt_toInt64, (show (-2 : Int32).toInt = -2 from by decide), (show (-2 : Int64).toInt = -2 from by decide), (show (0 : Int32).toInt = 0 from by decide), (show (0 : Int64).toInt = 0 from by decide), (show (1 : Int32).toInt = 1 from by decide), (show (1 : Int64).toInt = 1 from by decide), (show (7 : Int32).toInt = 7 from by decide), (show (7 : Int64).toInt = 7 from by decide), (show (24 : Int32).toInt = 24 from by decide), (show (24 : Int64).toInt = 24 from by decide)] at *; omega)))]
theorem lf_x_seen_2 (f : Int32) (k : Int32) (c_1 : ¬ f < 0) (c_2 : 8 ≤ f) : ((-2) : Int32) = if 0 ≤ f ∧ f ≤ 7 ∧ 0 ≤ k ∧ k ≤ 24 then 1 else -2 := by
  repeat first | rfl | rw [if_pos (by (first | omega | (simp only [Int64.le_iff_toInt_le, Int64.lt_iff_toInt_lt, Int32.le_iff_toInt_le, Int32.lt_iff_toInt_lt, ← Int32.toInt_inj, ← Int64.toInt_inj, Int32.toInt_toInt64, (show (-2 : Int32).toInt = -2 from by decide), (show (-2 : Int64).toInt = -2 from by decide), (show (0 : Int32).toInt = 0 from by decide), (show (0 : Int64).toInt = 0 from by decide), (show (1 : Int32).toInt = 1 from by decide), (show (1 : Int64).toInt = 1 from by decide), (show (7 : Int32).toInt = 7 from by decide), (show (7 : Int64).toInt = 7 from by decide), (show (8 : Int32).toInt = 8 from by decide), (show (8 : Int64).toInt = 8 from by decide), (show (24 : Int32).toInt = 24 from by decide), (show (24 : Int64).toInt = 24 from by decide)] at *; omega)))] | rw [if_neg (by (first | omega | (simp only [Int64.le_iff_toInt_le, Int64.lt_iff_toInt_lt, Int32.le_iff_toInt_le, Int32.lt_iff_toInt_lt, ← Int32.toInt_inj, ← Int64.toInt_inj, Int32.toInt_toInt64, (show (-2 : Int32).toInt = -2 from by decide), (show (-2 : Int64).toInt = -2 from by decide), (show (0 : Int32).toInt = 0 from by decide), (show (0 : Int64).toInt = 0 from by decide), (show (1 : Int32).toInt = 1 from by decide), (show (1 : Int64).toInt = 1 from by decide), (show (7 : Int32).toInt = 7 from by decide), (show (7 : Int64).toInt = 7 from by decide), (show (8 : Int32).toInt = 8 from by decide), (show (8 : Int64).toInt = 8 from by decide), (show (24 : Int32).toInt = 24 from by decide), (show (24 : Int64).toInt = 24 from by decide)] at *; omega)))]
theorem lf_x_seen_3 (f : Int32) (k : Int32) (c_1 : ¬ f < 0) (c_2 : ¬ 8 ≤ f) (c_3 : k < 0) : ((-2) : Int32) = if 0 ≤ f ∧ f ≤ 7 ∧ 0 ≤ k ∧ k ≤ 24 then 1 else -2 := by
  repeat first | rfl | rw [if_pos (by (first | omega | (simp only [Int64.le_iff_toInt_le, Int64.lt_iff_toInt_lt, Int32.le_iff_toInt_le, Int32.lt_iff_toInt_lt, ← Int32.toInt_inj, ← Int64.toInt_inj, Int32.toInt_toInt64, (show (-2 : Int32).toInt = -2 from by decide), (show (-2 : Int64).toInt = -2 from by decide), (show (0 : Int32).toInt = 0 from by decide), (show (0 : Int64).toInt = 0 from by decide), (show (1 : Int32).toInt = 1 from by decide), (show (1 : Int64).toInt = 1 from by decide), (show (7 : Int32).toInt = 7 from by decide), (show (7 : Int64).toInt = 7 from by decide), (show (8 : Int32).toInt = 8 from by decide), (show (8 : Int64).toInt = 8 from by decide), (show (24 : Int32).toInt = 24 from by decide), (show (24 : Int64).toInt = 24 from by decide)] at *; omega)))] | rw [if_neg (by (first | omega | (simp only [Int64.le_iff_toInt_le, Int64.lt_iff_toInt_lt, Int32.le_iff_toInt_le, Int32.lt_iff_toInt_lt, ← Int32.toInt_inj, ← Int64.toInt_inj, Int32.toInt_toInt64, (show (-2 : Int32).toInt = -2 from by decide), (show (-2 : Int64).toInt = -2 from by decide), (show (0 : Int32).toInt = 0 from by decide), (show (0 : Int64).toInt = 0 from by decide), (show (1 : Int32).toInt = 1 from by decide), (show (1 : Int64).toInt = 1 from by decide), (show (7 : Int32).toInt = 7 from by decide), (show (7 : Int64).toInt = 7 from by decide), (show (8 : Int32).toInt = 8 from by decide), (show (8 : Int64).toInt = 8 from by decide), (show (24 : Int32).toInt = 24 from by decide), (show (24 : Int64).toInt = 24 from by decide)] at *; omega)))]
theorem lf_x_seen_4 (f : Int32) (k : Int32) (c_1 : ¬ f < 0) (c_2 : ¬ 8 ≤ f) (c_3 : ¬ k < 0) (c_4 : k ≤ 24) : (1 : Int32) = if 0 ≤ f ∧ f ≤ 7 ∧ 0 ≤ k ∧ k ≤ 24 then 1 else -2 := by
  repeat first | rfl | rw [if_pos (by (first | omega | (simp only [Int64.le_iff_toInt_le, Int64.lt_iff_toInt_lt, Int32.le_iff_toInt_le, Int32.lt_iff_toInt_lt, ← Int32.toInt_inj, ← Int64.toInt_inj, Int32.toInt_toInt64, (show (-2 : Int32).toInt = -2 from by decide), (show (-2 : Int64).toInt = -2 from by decide), (show (0 : Int32).toInt = 0 from by decide), (show (0 : Int64).toInt = 0 from by decide), (show (1 : Int32).toInt = 1 from by decide), (show (1 : Int64).toInt = 1 from by decide), (show (7 : Int32).toInt = 7 from by decide), (show (7 : Int64).toInt = 7 from by decide), (show (8 : Int32).toInt = 8 from by decide), (show (8 : Int64).toInt = 8 from by decide), (show (24 : Int32).toInt = 24 from by decide), (show (24 : Int64).toInt = 24 from by decide)] at *; omega)))] | rw [if_neg (by (first | omega | (simp only [Int64.le_iff_toInt_le, Int64.lt_iff_toInt_lt, Int32.le_iff_toInt_le, Int32.lt_iff_toInt_lt, ← Int32.toInt_inj, ← Int64.toInt_inj, Int32.toInt_toInt64, (show (-2 : Int32).toInt = -2 from by decide), (show (-2 : Int64).toInt = -2 from by decide), (show (0 : Int32).toInt = 0 from by decide), (show (0 : Int64).toInt = 0 from by decide), (show (1 : Int32).toInt = 1 from by decide), (show (1 : Int64).toInt = 1 from by decide), (show (7 : Int32).toInt = 7 from by decide), (show (7 : Int64).toInt = 7 from by decide), (show (8 : Int32).toInt = 8 from by decide), (show (8 : Int64).toInt = 8 from by decide), (show (24 : Int32).toInt = 24 from by decide), (show (24 : Int64).toInt = 24 from by decide)] at *; omega)))]
theorem lf_x_seen_5 (f : Int32) (k : Int32) (c_1 : ¬ f < 0) (c_2 : ¬ 8 ≤ f) (c_3 : ¬ k < 0) (c_4 : ¬ k ≤ 24) : ((-2) : Int32) = if 0 ≤ f ∧ f ≤ 7 ∧ 0 ≤ k ∧ k ≤ 24 then 1 else -2 := by
  repeat first | rfl | rw [if_pos (by (first | omega | (simp only [Int64.le_iff_toInt_le, Int64.lt_iff_toInt_lt, Int32.le_iff_toInt_le, Int32.lt_iff_toInt_lt, ← Int32.toInt_inj, ← Int64.toInt_inj, Int32.toInt_toInt64, (show (-2 : Int32).toInt = -2 from by decide), (show (-2 : Int64).toInt = -2 from by decide), (show (0 : Int32).toInt = 0 from by decide), (show (0 : Int64).toInt = 0 from by decide), (show (1 : Int32).toInt = 1 from by decide), (show (1 : Int64).toInt = 1 from by decide), (show (7 : Int32).toInt = 7 from by decide), (show (7 : Int64).toInt = 7 from by decide), (show (8 : Int32).toInt = 8 from by decide), (show (8 : Int64).toInt = 8 from by decide), (show (24 : Int32).toInt = 24 from by decide), (show (24 : Int64).toInt = 24 from by decide)] at *; omega)))] | rw [if_neg (by (first | omega | (simp only [Int64.le_iff_toInt_le, Int64.lt_iff_toInt_lt, Int32.le_iff_toInt_le, Int32.lt_iff_toInt_lt, ← Int32.toInt_inj, ← Int64.toInt_inj, Int32.toInt_toInt64, (show (-2 : Int32).toInt = -2 from by decide), (show (-2 : Int64).toInt = -2 from by decide), (show (0 : Int32).toInt = 0 from by decide), (show (0 : Int64).toInt = 0 from by decide), (show (1 : Int32).toInt = 1 from by decide), (show (1 : Int64).toInt = 1 from by decide), (show (7 : Int32).toInt = 7 from by decide), (show (7 : Int64).toInt = 7 from by decide), (show (8 : Int32).toInt = 8 from by decide), (show (8 : Int64).toInt = 8 from by decide), (show (24 : Int32).toInt = 24 from by decide), (show (24 : Int64).toInt = 24 from by decide)] at *; omega)))]
set_option maxHeartbeats 4000000 in
set_option maxRecDepth 100000 in
theorem x_seen (l : Launch) (dC : Nat → ClassId) (dI : Nat → Nat → Nat) (cI cJ cQ : ClassId) (sz : Nat) (hx : Nat) (f : Int32) (k : Int32) (aLa : Nat) (aPa : Nat) (aGe : Nat) (aFl : Nat) (aTr : Nat) (aBe : Nat) (aLu : Nat) (aLo : Nat) (vSf : Nat) (vSm : Nat) (vCo : Nat) (vSh : Nat) : Met l yX11_seen (kW yX11_seen cX11_seen 3 (some .int)) { frames := 0, cells := 0, slots := 0, locals := 0 } (kPre dC dI cI cJ cQ sz [.ref hx, .int f, .int k] [(hx, .inr (10, [.ref aLa, .ref aPa, .ref aGe, .ref aFl, .ref aTr, .ref aBe, .ref aLu, .ref aLo, .ref vSf, .ref vSm, .ref vCo, .ref vSh, .int 0, .int 0, .int 0])), (vSf, .inl (cI, 8, .inl (fun _ => 0))), (vSm, .inl (cI, 8, .inl (fun _ => 0)))]) (va_Qi (fun (r : Int32) (_ : Unit) => r = if 0 ≤ f ∧ f ≤ 7 ∧ 0 ≤ k ∧ k ≤ 24 then 1 else -2) (fun _ _ => True) (va_A [(hx, .inr (10, [.ref aLa, .ref aPa, .ref aGe, .ref aFl, .ref aTr, .ref aBe, .ref aLu, .ref aLo, .ref vSf, .ref vSm, .ref vCo, .ref vSh, .int 0, .int 0, .int 0])), (vSf, .inl (cI, 8, .inl (fun _ => 0))), (vSm, .inl (cI, 8, .inl (fun _ => 0)))] sz)) 0 0 (va_A [(hx, .inr (10, [.ref aLa, .ref aPa, .ref aGe, .ref aFl, .ref aTr, .ref aBe, .ref aLu, .ref aLo, .ref vSf, .ref vSm, .ref vCo, .ref vSh, .int 0, .int 0, .int 0])), (vSf, .inl (cI, 8, .inl (fun _ => 0))), (vSm, .inl (cI, 8, .inl (fun _ => 0)))] sz) := by
  refine Met.ofW (cc := cX11_seen) (maxL := 3) (ret := (some .int)) (by decide) rfl ?_
  intro p₀ e₀ s₀ m₀ args below meth c₀ s₁ B hml hv₀
  obtain ⟨rfl, hsz, hP, hK, hD0, hN⟩ := hv₀
  have hx₀ := B.exec
  have hb := B.bytes
  have hr := B.returns
  have hts := atoms_spec (ws := (kW yX11_seen cX11_seen 3 (some .int))) B.pre
  have hts := fun w h => hts w (List.mem_cons_of_mem _ h)
  have hown : s₀.vm.findClass RX11 = some m₀.cls := findClass_of_methodNamed B.named
  have hlocks := B.notSynchronized
  subst hsz
  have hD := hD0.self (sz := s₀.heap.size)
  generalize hAe : va_A [(hx, .inr (10, [.ref aLa, .ref aPa, .ref aGe, .ref aFl, .ref aTr, .ref aBe, .ref aLu, .ref aLo, .ref vSf, .ref vSm, .ref vCo, .ref vSh, .int 0, .int 0, .int 0])), (vSf, .inl (cI, 8, .inl (fun _ => 0))), (vSm, .inl (cI, 8, .inl (fun _ => 0)))] s₀.heap.size = A at hD ⊢
  have hA : ∀ q : Nat, s₀.heap.size ≤ q → A q := fun q h => by rw [← hAe]; exact Or.inr h
  have hS : va_S A s₀.heap s₀.heap [] := va_S.rf
  have hP : va_P (dC, dI) vwCl [(hx, .inr (10, [.ref aLa, .ref aPa, .ref aGe, .ref aFl, .ref aTr, .ref aBe, .ref aLu, .ref aLo, .ref vSf, .ref vSm, .ref vCo, .ref vSh, .int 0, .int 0, .int 0])), (vSf, .inl (cI, 8, .inl (fun _ => 0))), (vSm, .inl (cI, 8, .inl (fun _ => 0)))] s₀.heap := hP
  have hl := lv_entry ([.ref hx, .int f, .int k]) (n := 3) (Nat.le_of_ble_eq_true rfl)
  rw [lg_entry_eq]
  generalize (lg_sl ([.ref hx, .int f, .int k]) ++ List.replicate (3 - (lg_sl ([.ref hx, .int f, .int k])).length) Slot.unset).toArray = ls at hl ⊢
  have hl : lv_has ls 3 [(0, .ref hx), (1, .int f), (2, .int k)] := hl
  obtain ⟨H, hH⟩ : ∃ z : Heap, z = s₀.heap := ⟨_, rfl⟩
  rw [← hH] at hP
  have hS : va_S A s₀.heap H [] := by rw [hH]; exact hS
  refine k_heap hH ?_
  have hD : va_D A [(hx, .inr (10, [.ref aLa, .ref aPa, .ref aGe, .ref aFl, .ref aTr, .ref aBe, .ref aLu, .ref aLo, .ref vSf, .ref vSm, .ref vCo, .ref vSh, .int 0, .int 0, .int 0])), (vSf, .inl (cI, 8, .inl (fun _ => 0))), (vSm, .inl (cI, 8, .inl (fun _ => 0)))] := hD
  obtain ⟨locs, hlo⟩ : ∃ z : List Loc, z = [] := ⟨_, rfl⟩
  rw [← hlo] at hS ⊢
  clear hlo hH hAe hD0
  refine lv_iload_n hx₀ hb dX11_seen_0 rfl (lv_at hl 1 rfl) ?_
  refine lv_if_lt (tgt := 20) hx₀ hb dX11_seen_1 (by decide) (fun c_1 => ?_) (fun c_1 => ?_)
  · refine lv_bipush (v := (-2)) hx₀ hb dX11_seen_20 (by decide +kernel) ?_
    exact W.iret (v := (-2)) hx₀ hb hr (fun t₀ ht hW => ⟨⟨(-2), (), rfl, (lf_x_seen_1 f k c_1), trivial⟩, hS.F ht⟩) hS.2.2 dX11_seen_22
  · refine lv_iload_n hx₀ hb dX11_seen_4 rfl (lv_at hl 1 rfl) ?_
    refine lv_bipush (v := 8) hx₀ hb dX11_seen_5 (by decide +kernel) ?_
    refine lv_icmp_ge (tgt := 20) hx₀ hb dX11_seen_7 (by decide) (fun c_2 => ?_) (fun c_2 => ?_)
    · refine lv_bipush (v := (-2)) hx₀ hb dX11_seen_20 (by decide +kernel) ?_
      exact W.iret (v := (-2)) hx₀ hb hr (fun t₀ ht hW => ⟨⟨(-2), (), rfl, (lf_x_seen_2 f k c_1 c_2), trivial⟩, hS.F ht⟩) hS.2.2 dX11_seen_22
    · refine lv_iload_n hx₀ hb dX11_seen_10 rfl (lv_at hl 2 rfl) ?_
      refine lv_if_lt (tgt := 20) hx₀ hb dX11_seen_11 (by decide) (fun c_3 => ?_) (fun c_3 => ?_)
      · refine lv_bipush (v := (-2)) hx₀ hb dX11_seen_20 (by decide +kernel) ?_
        exact W.iret (v := (-2)) hx₀ hb hr (fun t₀ ht hW => ⟨⟨(-2), (), rfl, (lf_x_seen_3 f k c_1 c_2 c_3), trivial⟩, hS.F ht⟩) hS.2.2 dX11_seen_22
      · refine lv_iload_n hx₀ hb dX11_seen_14 rfl (lv_at hl 2 rfl) ?_
        refine lv_bipush (v := 24) hx₀ hb dX11_seen_15 (by decide +kernel) ?_
        refine lv_icmp_le (tgt := 23) hx₀ hb dX11_seen_17 (by decide) (fun c_4 => ?_) (fun c_4 => ?_)
        · refine lv_aload_n hx₀ hb dX11_seen_23 rfl (lv_at hl 0 rfl) ?_
          refine va_get (D := (dC, dI)) (ci := 10) (v := .int 0) (C := RX11) (T := TX11) (N := 15) hx₀ hb hts inlX11 hown hK hP 0 rfl rfl 12 (by decide) (hts (.fieldLink RX11 193 "BittenStick" "seenNumber" "I") wd_690) (fun _ h9 => h9) rfl dX11_seen_24 ?_
          refine lv_if_lt (tgt := 39) hx₀ hb dX11_seen_27 (by decide) (fun c9 => absurd c9 (by decide +kernel)) (fun _ => ?_)
          refine lv_aload_n hx₀ hb dX11_seen_30 rfl (lv_at hl 0 rfl) ?_
          refine va_get (D := (dC, dI)) (ci := 10) (v := .int 0) (C := RX11) (T := TX11) (N := 15) hx₀ hb hts inlX11 hown hK hP 0 rfl rfl 12 (by decide) (hts (.fieldLink RX11 193 "BittenStick" "seenNumber" "I") wd_690) (fun _ h9 => h9) rfl dX11_seen_31 ?_
          refine lv_bipush (v := 8) hx₀ hb dX11_seen_34 (by decide +kernel) ?_
          refine lv_icmp_lt (tgt := 42) hx₀ hb dX11_seen_36 (by decide) (fun _ => ?_) (fun c9 => absurd (by decide +kernel) c9)
          refine lv_aload_n hx₀ hb dX11_seen_42 rfl (lv_at hl 0 rfl) ?_
          refine va_get (D := (dC, dI)) (ci := 10) (v := .ref vSf) (C := RX11) (T := TX11) (N := 15) hx₀ hb hts inlX11 hown hK hP 0 rfl rfl 8 (by decide) (hts (.fieldLink RX11 67 "BittenStick" "seenFlights" "[I") wd_45) (fun _ h9 => h9) rfl dX11_seen_43 ?_
          refine lv_aload_n hx₀ hb dX11_seen_46 rfl (lv_at hl 0 rfl) ?_
          refine va_get (D := (dC, dI)) (ci := 10) (v := .int 0) (C := RX11) (T := TX11) (N := 15) hx₀ hb hts inlX11 hown hK hP 0 rfl rfl 12 (by decide) (hts (.fieldLink RX11 193 "BittenStick" "seenNumber" "I") wd_690) (fun _ h9 => h9) rfl dX11_seen_47 ?_
          refine lv_iload_n hx₀ hb dX11_seen_50 rfl (lv_at hl 1 rfl) ?_
          refine va_iast hx₀ hb hK hP hD hS 1 0 rfl rfl (by unfold vp_in; decide +kernel) dX11_seen_51 (fun H locs hP hD hS => ?_)
          have hP : va_P (dC, dI) vwCl [(hx, .inr (10, [.ref aLa, .ref aPa, .ref aGe, .ref aFl, .ref aTr, .ref aBe, .ref aLu, .ref aLo, .ref vSf, .ref vSm, .ref vCo, .ref vSh, .int 0, .int 0, .int 0])), (vSf, .inl (cI, 8, .inl (upd (fun _ => 0) (0 : Int32).toNatClampNeg f))), (vSm, .inl (cI, 8, .inl (fun _ => 0)))] H := hP
          have hD : va_D A [(hx, .inr (10, [.ref aLa, .ref aPa, .ref aGe, .ref aFl, .ref aTr, .ref aBe, .ref aLu, .ref aLo, .ref vSf, .ref vSm, .ref vCo, .ref vSh, .int 0, .int 0, .int 0])), (vSf, .inl (cI, 8, .inl (upd (fun _ => 0) (0 : Int32).toNatClampNeg f))), (vSm, .inl (cI, 8, .inl (fun _ => 0)))] := hD
          refine lv_aload_n hx₀ hb dX11_seen_52 rfl (lv_at hl 0 rfl) ?_
          refine va_get (D := (dC, dI)) (ci := 10) (v := .ref vSm) (C := RX11) (T := TX11) (N := 15) hx₀ hb hts inlX11 hown hK hP 0 rfl rfl 9 (by decide) (hts (.fieldLink RX11 71 "BittenStick" "seenMiles" "[I") wd_46) (fun _ h9 => h9) rfl dX11_seen_53 ?_
          refine lv_aload_n hx₀ hb dX11_seen_56 rfl (lv_at hl 0 rfl) ?_
          refine va_get (D := (dC, dI)) (ci := 10) (v := .int 0) (C := RX11) (T := TX11) (N := 15) hx₀ hb hts inlX11 hown hK hP 0 rfl rfl 12 (by decide) (hts (.fieldLink RX11 193 "BittenStick" "seenNumber" "I") wd_690) (fun _ h9 => h9) rfl dX11_seen_57 ?_
          refine lv_iload_n hx₀ hb dX11_seen_60 rfl (lv_at hl 2 rfl) ?_
          refine va_iast hx₀ hb hK hP hD hS 2 0 rfl rfl (by unfold vp_in; decide +kernel) dX11_seen_61 (fun H locs hP hD hS => ?_)
          have hP : va_P (dC, dI) vwCl [(hx, .inr (10, [.ref aLa, .ref aPa, .ref aGe, .ref aFl, .ref aTr, .ref aBe, .ref aLu, .ref aLo, .ref vSf, .ref vSm, .ref vCo, .ref vSh, .int 0, .int 0, .int 0])), (vSf, .inl (cI, 8, .inl (upd (fun _ => 0) (0 : Int32).toNatClampNeg f))), (vSm, .inl (cI, 8, .inl (upd (fun _ => 0) (0 : Int32).toNatClampNeg k)))] H := hP
          have hD : va_D A [(hx, .inr (10, [.ref aLa, .ref aPa, .ref aGe, .ref aFl, .ref aTr, .ref aBe, .ref aLu, .ref aLo, .ref vSf, .ref vSm, .ref vCo, .ref vSh, .int 0, .int 0, .int 0])), (vSf, .inl (cI, 8, .inl (upd (fun _ => 0) (0 : Int32).toNatClampNeg f))), (vSm, .inl (cI, 8, .inl (upd (fun _ => 0) (0 : Int32).toNatClampNeg k)))] := hD
          refine lv_aload_n hx₀ hb dX11_seen_62 rfl (lv_at hl 0 rfl) ?_
          refine lv_dup hx₀ hb dX11_seen_63 rfl ?_
          refine va_get (D := (dC, dI)) (ci := 10) (v := .int 0) (C := RX11) (T := TX11) (N := 15) hx₀ hb hts inlX11 hown hK hP 0 rfl rfl 12 (by decide) (hts (.fieldLink RX11 193 "BittenStick" "seenNumber" "I") wd_690) (fun _ h9 => h9) rfl dX11_seen_64 ?_
          refine lv_iconst (v := 1) hx₀ hb dX11_seen_67 (by decide +kernel) ?_
          refine lv_iadd hx₀ hb dX11_seen_68 ?_
          refine k_topi (v := 1) (by decide +kernel) ?_
          refine va_put (D := (dC, dI)) (ci := 10) (v := .int 1) (ty := .int) (C := RX11) (T := TX11) (N := 15) hx₀ hb hts inlX11 tyX11 tyX11_ok nmX11 hown hK hP hD hS 0 rfl rfl 12 (by decide) (hts (.fieldLink RX11 193 "BittenStick" "seenNumber" "I") wd_690) (fun _ h9 => h9) rfl (by decide +kernel) rfl rfl (Nat.le_of_ble_eq_true rfl) dX11_seen_69 (fun H locs hP hD hS => ?_)
          have hP : va_P (dC, dI) vwCl [(hx, .inr (10, [.ref aLa, .ref aPa, .ref aGe, .ref aFl, .ref aTr, .ref aBe, .ref aLu, .ref aLo, .ref vSf, .ref vSm, .ref vCo, .ref vSh, .int 1, .int 0, .int 0])), (vSf, .inl (cI, 8, .inl (upd (fun _ => 0) (0 : Int32).toNatClampNeg f))), (vSm, .inl (cI, 8, .inl (upd (fun _ => 0) (0 : Int32).toNatClampNeg k)))] H := hP
          have hD : va_D A [(hx, .inr (10, [.ref aLa, .ref aPa, .ref aGe, .ref aFl, .ref aTr, .ref aBe, .ref aLu, .ref aLo, .ref vSf, .ref vSm, .ref vCo, .ref vSh, .int 1, .int 0, .int 0])), (vSf, .inl (cI, 8, .inl (upd (fun _ => 0) (0 : Int32).toNatClampNeg f))), (vSm, .inl (cI, 8, .inl (upd (fun _ => 0) (0 : Int32).toNatClampNeg k)))] := hD
          refine lv_aload_n hx₀ hb dX11_seen_72 rfl (lv_at hl 0 rfl) ?_
          refine va_get (D := (dC, dI)) (ci := 10) (v := .int 1) (C := RX11) (T := TX11) (N := 15) hx₀ hb hts inlX11 hown hK hP 0 rfl rfl 12 (by decide) (hts (.fieldLink RX11 193 "BittenStick" "seenNumber" "I") wd_690) (fun _ h9 => h9) rfl dX11_seen_73 ?_
          exact W.iret (v := 1) hx₀ hb hr (fun t₀ ht hW => ⟨⟨1, (), rfl, (lf_x_seen_4 f k c_1 c_2 c_3 c_4), trivial⟩, hS.F ht⟩) hS.2.2 dX11_seen_76
        · refine lv_bipush (v := (-2)) hx₀ hb dX11_seen_20 (by decide +kernel) ?_
          exact W.iret (v := (-2)) hx₀ hb hr (fun t₀ ht hW => ⟨⟨(-2), (), rfl, (lf_x_seen_5 f k c_1 c_2 c_3 c_4), trivial⟩, hS.F ht⟩) hS.2.2 dX11_seen_22
set_option maxHeartbeats 4000000 in
set_option maxRecDepth 100000 in
theorem x_forget (l : Launch) (dC : Nat → ClassId) (dI : Nat → Nat → Nat) (cI cJ cQ : ClassId) (sz : Nat) (hx : Nat) (aLa : Nat) (aPa : Nat) (aGe : Nat) (aFl : Nat) (aTr : Nat) (aBe : Nat) (aLu : Nat) (aLo : Nat) (vSf : Nat) (vSm : Nat) (vCo : Nat) (vSh : Nat) : Met l yX11_forget (kW yX11_forget cX11_forget 2 (some .int)) { frames := 0, cells := 0, slots := 0, locals := 0 } (kPre dC dI cI cJ cQ sz [.ref hx] [(hx, .inr (10, [.ref aLa, .ref aPa, .ref aGe, .ref aFl, .ref aTr, .ref aBe, .ref aLu, .ref aLo, .ref vSf, .ref vSm, .ref vCo, .ref vSh, .int 0, .int 0, .int 0]))]) (va_Qi (fun (r : Int32) (_ : Unit) => r = 0) (fun _ _ => True) (va_A [(hx, .inr (10, [.ref aLa, .ref aPa, .ref aGe, .ref aFl, .ref aTr, .ref aBe, .ref aLu, .ref aLo, .ref vSf, .ref vSm, .ref vCo, .ref vSh, .int 0, .int 0, .int 0]))] sz)) 0 0 (va_A [(hx, .inr (10, [.ref aLa, .ref aPa, .ref aGe, .ref aFl, .ref aTr, .ref aBe, .ref aLu, .ref aLo, .ref vSf, .ref vSm, .ref vCo, .ref vSh, .int 0, .int 0, .int 0]))] sz) := by
  refine Met.ofW (cc := cX11_forget) (maxL := 2) (ret := (some .int)) (by decide) rfl ?_
  intro p₀ e₀ s₀ m₀ args below meth c₀ s₁ B hml hv₀
  obtain ⟨rfl, hsz, hP, hK, hD0, hN⟩ := hv₀
  have hx₀ := B.exec
  have hb := B.bytes
  have hr := B.returns
  have hts := atoms_spec (ws := (kW yX11_forget cX11_forget 2 (some .int))) B.pre
  have hts := fun w h => hts w (List.mem_cons_of_mem _ h)
  have hown : s₀.vm.findClass RX11 = some m₀.cls := findClass_of_methodNamed B.named
  have hlocks := B.notSynchronized
  subst hsz
  have hD := hD0.self (sz := s₀.heap.size)
  generalize hAe : va_A [(hx, .inr (10, [.ref aLa, .ref aPa, .ref aGe, .ref aFl, .ref aTr, .ref aBe, .ref aLu, .ref aLo, .ref vSf, .ref vSm, .ref vCo, .ref vSh, .int 0, .int 0, .int 0]))] s₀.heap.size = A at hD ⊢
  have hA : ∀ q : Nat, s₀.heap.size ≤ q → A q := fun q h => by rw [← hAe]; exact Or.inr h
  have hS : va_S A s₀.heap s₀.heap [] := va_S.rf
  have hP : va_P (dC, dI) vwCl [(hx, .inr (10, [.ref aLa, .ref aPa, .ref aGe, .ref aFl, .ref aTr, .ref aBe, .ref aLu, .ref aLo, .ref vSf, .ref vSm, .ref vCo, .ref vSh, .int 0, .int 0, .int 0]))] s₀.heap := hP
  have hl := lv_entry ([.ref hx]) (n := 2) (Nat.le_of_ble_eq_true rfl)
  rw [lg_entry_eq]
  generalize (lg_sl ([.ref hx]) ++ List.replicate (2 - (lg_sl ([.ref hx])).length) Slot.unset).toArray = ls at hl ⊢
  have hl : lv_has ls 2 [(0, .ref hx)] := hl
  obtain ⟨H, hH⟩ : ∃ z : Heap, z = s₀.heap := ⟨_, rfl⟩
  rw [← hH] at hP
  have hS : va_S A s₀.heap H [] := by rw [hH]; exact hS
  refine k_heap hH ?_
  have hD : va_D A [(hx, .inr (10, [.ref aLa, .ref aPa, .ref aGe, .ref aFl, .ref aTr, .ref aBe, .ref aLu, .ref aLo, .ref vSf, .ref vSm, .ref vCo, .ref vSh, .int 0, .int 0, .int 0]))] := hD
  obtain ⟨locs, hlo⟩ : ∃ z : List Loc, z = [] := ⟨_, rfl⟩
  rw [← hlo] at hS ⊢
  clear hlo hH hAe hD0
  refine lv_aload_n hx₀ hb dX11_forget_0 rfl (lv_at hl 0 rfl) ?_
  refine va_get (D := (dC, dI)) (ci := 10) (v := .int 0) (C := RX11) (T := TX11) (N := 15) hx₀ hb hts inlX11 hown hK hP 0 rfl rfl 12 (by decide) (hts (.fieldLink RX11 193 "BittenStick" "seenNumber" "I") wd_690) (fun _ h9 => h9) rfl dX11_forget_1 ?_
  refine lv_istore_n (lv' := [(1, .int 0), (0, .ref hx)]) hx₀ hb dX11_forget_4 rfl hl (by decide) rfl (fun ls hl => ?_)
  refine lv_aload_n hx₀ hb dX11_forget_5 rfl (lv_at hl 1 rfl) ?_
  refine lv_iconst (v := 0) hx₀ hb dX11_forget_6 (by decide +kernel) ?_
  refine va_put (D := (dC, dI)) (ci := 10) (v := .int 0) (ty := .int) (C := RX11) (T := TX11) (N := 15) hx₀ hb hts inlX11 tyX11 tyX11_ok nmX11 hown hK hP hD hS 0 rfl rfl 12 (by decide) (hts (.fieldLink RX11 193 "BittenStick" "seenNumber" "I") wd_690) (fun _ h9 => h9) rfl (by decide +kernel) rfl rfl (Nat.le_of_ble_eq_true rfl) dX11_forget_7 (fun H locs hP hD hS => ?_)
  have hP : va_P (dC, dI) vwCl [(hx, .inr (10, [.ref aLa, .ref aPa, .ref aGe, .ref aFl, .ref aTr, .ref aBe, .ref aLu, .ref aLo, .ref vSf, .ref vSm, .ref vCo, .ref vSh, .int 0, .int 0, .int 0]))] H := hP
  have hD : va_D A [(hx, .inr (10, [.ref aLa, .ref aPa, .ref aGe, .ref aFl, .ref aTr, .ref aBe, .ref aLu, .ref aLo, .ref vSf, .ref vSm, .ref vCo, .ref vSh, .int 0, .int 0, .int 0]))] := hD
  refine lv_iload_n hx₀ hb dX11_forget_10 rfl (lv_at hl 0 rfl) ?_
  exact W.iret (v := 0) hx₀ hb hr (fun t₀ ht hW => ⟨⟨0, (), rfl, rfl, trivial⟩, hS.F ht⟩) hS.2.2 dX11_forget_11
theorem lf_x_sores_1 (k : Int32) (c9 : 0 ≤ k ∧ k < (0 : Int32)) : False := by
  (first | omega | (simp only [Int64.le_iff_toInt_le, Int64.lt_iff_toInt_lt, Int32.le_iff_toInt_le, Int32.lt_iff_toInt_lt, ← Int32.toInt_inj, ← Int64.toInt_inj, Int32.toInt_toInt64, (show (0 : Int32).toInt = 0 from by decide), (show (0 : Int64).toInt = 0 from by decide)] at *; omega))
set_option maxHeartbeats 4000000 in
set_option maxRecDepth 100000 in
theorem x_sores (l : Launch) (dC : Nat → ClassId) (dI : Nat → Nat → Nat) (cI cJ cQ : ClassId) (sz : Nat) (hx : Nat) (k : Int32) (aLa : Nat) (aPa : Nat) (aGe : Nat) (aFl : Nat) (aTr : Nat) (aBe : Nat) (aLu : Nat) (aLo : Nat) (vSf : Nat) (vSm : Nat) (vCo : Nat) (vSh : Nat) (vPa : Nat) : Met l yX11_sores (kW yX11_sores cX11_sores 4 (some .int)) { frames := 1, cells := 0, slots := 0, locals := 21 } (kPre dC dI cI cJ cQ sz [.ref hx, .int k] [(hx, .inr (10, [.ref aLa, .ref aPa, .ref aGe, .ref aFl, .ref aTr, .ref aBe, .ref aLu, .ref aLo, .ref vSf, .ref vSm, .ref vCo, .ref vSh, .int 0, .int 0, .int 0])), (aPa, .inr (7, [.ref vPa, .int 0, .int (-1), .int 0]))]) (va_Qi (fun (r : Int32) (_ : Unit) => r = -2) (fun _ _ => True) (va_A [(hx, .inr (10, [.ref aLa, .ref aPa, .ref aGe, .ref aFl, .ref aTr, .ref aBe, .ref aLu, .ref aLo, .ref vSf, .ref vSm, .ref vCo, .ref vSh, .int 0, .int 0, .int 0])), (aPa, .inr (7, [.ref vPa, .int 0, .int (-1), .int 0]))] sz)) 0 0 (va_A [(hx, .inr (10, [.ref aLa, .ref aPa, .ref aGe, .ref aFl, .ref aTr, .ref aBe, .ref aLu, .ref aLo, .ref vSf, .ref vSm, .ref vCo, .ref vSh, .int 0, .int 0, .int 0])), (aPa, .inr (7, [.ref vPa, .int 0, .int (-1), .int 0]))] sz) := by
  refine Met.ofW (cc := cX11_sores) (maxL := 4) (ret := (some .int)) (by decide) rfl ?_
  intro p₀ e₀ s₀ m₀ args below meth c₀ s₁ B hml hv₀
  obtain ⟨rfl, hsz, hP, hK, hD0, hN⟩ := hv₀
  have hx₀ := B.exec
  have hb := B.bytes
  have hr := B.returns
  have hts := atoms_spec (ws := (kW yX11_sores cX11_sores 4 (some .int))) B.pre
  have hts := fun w h => hts w (List.mem_cons_of_mem _ h)
  have hown : s₀.vm.findClass RX11 = some m₀.cls := findClass_of_methodNamed B.named
  have hlocks := B.notSynchronized
  subst hsz
  have hD := hD0.self (sz := s₀.heap.size)
  generalize hAe : va_A [(hx, .inr (10, [.ref aLa, .ref aPa, .ref aGe, .ref aFl, .ref aTr, .ref aBe, .ref aLu, .ref aLo, .ref vSf, .ref vSm, .ref vCo, .ref vSh, .int 0, .int 0, .int 0])), (aPa, .inr (7, [.ref vPa, .int 0, .int (-1), .int 0]))] s₀.heap.size = A at hD ⊢
  have hA : ∀ q : Nat, s₀.heap.size ≤ q → A q := fun q h => by rw [← hAe]; exact Or.inr h
  have hS : va_S A s₀.heap s₀.heap [] := va_S.rf
  have hP : va_P (dC, dI) vwCl [(hx, .inr (10, [.ref aLa, .ref aPa, .ref aGe, .ref aFl, .ref aTr, .ref aBe, .ref aLu, .ref aLo, .ref vSf, .ref vSm, .ref vCo, .ref vSh, .int 0, .int 0, .int 0])), (aPa, .inr (7, [.ref vPa, .int 0, .int (-1), .int 0]))] s₀.heap := hP
  have hl := lv_entry ([.ref hx, .int k]) (n := 4) (Nat.le_of_ble_eq_true rfl)
  rw [lg_entry_eq]
  generalize (lg_sl ([.ref hx, .int k]) ++ List.replicate (4 - (lg_sl ([.ref hx, .int k])).length) Slot.unset).toArray = ls at hl ⊢
  have hl : lv_has ls 4 [(0, .ref hx), (1, .int k)] := hl
  obtain ⟨H, hH⟩ : ∃ z : Heap, z = s₀.heap := ⟨_, rfl⟩
  rw [← hH] at hP
  have hS : va_S A s₀.heap H [] := by rw [hH]; exact hS
  refine k_heap hH ?_
  have hD : va_D A [(hx, .inr (10, [.ref aLa, .ref aPa, .ref aGe, .ref aFl, .ref aTr, .ref aBe, .ref aLu, .ref aLo, .ref vSf, .ref vSm, .ref vCo, .ref vSh, .int 0, .int 0, .int 0])), (aPa, .inr (7, [.ref vPa, .int 0, .int (-1), .int 0]))] := hD
  obtain ⟨locs, hlo⟩ : ∃ z : List Loc, z = [] := ⟨_, rfl⟩
  rw [← hlo] at hS ⊢
  clear hlo hH hAe hD0
  refine lv_aload_n hx₀ hb dX11_sores_0 rfl (lv_at hl 0 rfl) ?_
  refine va_get (D := (dC, dI)) (ci := 10) (v := .ref aPa) (C := RX11) (T := TX11) (N := 15) hx₀ hb hts inlX11 hown hK hP 0 rfl rfl 1 (by decide) (hts (.fieldLink RX11 19 "BittenStick" "passengers" "LBittenStick$Passengers;") wd_19) (fun _ h9 => h9) rfl dX11_sores_1 ?_
  refine lv_iload_n hx₀ hb dX11_sores_4 rfl (lv_at hl 1 rfl) ?_
  have hPc := hP.sub (ws' := [(aPa, .inr (7, [.ref vPa, .int 0, .int (-1), .int 0]))]) [1] rfl
  have hDc := hD.sub (ws' := [(aPa, .inr (7, [.ref vPa, .int 0, .int (-1), .int 0]))]) [1] (by decide) rfl
  have hFc := va_free (wc := [(aPa, .inr (7, [.ref vPa, .int 0, .int (-1), .int 0]))]) hD hS hA [1] rfl
  refine va_calli (va_runU (As := [.int k]) (rest := []) ⟨hx₀, hb, hml, hown, hts⟩ (c_tHas_X7 l dC dI cI cJ cQ H.size aPa k vPa 0 (-1) 0) (va_cwU 1 hts (kGU wd_307 wd_303 wd_304 wd_305 wd_306 wd_57) rfl rfl rfl rfl (by decide +kernel) ⟨Nat.le_of_ble_eq_true rfl, Nat.le_of_ble_eq_true rfl⟩) (k_preV (ci := 7) (q0 := 0) hK hPc hDc hN rfl rfl) rfl rfl hl.1 rfl (lv_room (Nat.le_of_ble_eq_true rfl)) dX11_sores_5 ⟨by decide +kernel, by decide +kernel⟩) hS (fun q _ h => hFc q h) hFc (fun r_1 u₀ t₀ H1 locs ht hvm hw hB hz1 hk1 hS => ?_)
  obtain ⟨hP1, hK1, hD1⟩ := hB
  rw [ht] at hP1
  obtain ⟨hP, hD⟩ := va_join (wr := [(hx, .inr (10, [.ref aLa, .ref aPa, .ref aGe, .ref aFl, .ref aTr, .ref aBe, .ref aLu, .ref aLo, .ref vSf, .ref vSm, .ref vCo, .ref vSh, .int 0, .int 0, .int 0]))]) (w1 := [(aPa, .inr (7, [.ref vPa, .int 0, .int (-1), .int 0]))]) hP hD [1] [0] rfl rfl (by decide) (by decide) hk1 hFc hP1 hD1
  generalize H1 = H at hP hS ⊢
  have hP : va_P (dC, dI) vwCl [(hx, .inr (10, [.ref aLa, .ref aPa, .ref aGe, .ref aFl, .ref aTr, .ref aBe, .ref aLu, .ref aLo, .ref vSf, .ref vSm, .ref vCo, .ref vSh, .int 0, .int 0, .int 0])), (aPa, .inr (7, [.ref vPa, .int 0, .int (-1), .int 0]))] H := hP
  have hD : va_D A [(hx, .inr (10, [.ref aLa, .ref aPa, .ref aGe, .ref aFl, .ref aTr, .ref aBe, .ref aLu, .ref aLo, .ref vSf, .ref vSm, .ref vCo, .ref vSh, .int 0, .int 0, .int 0])), (aPa, .inr (7, [.ref vPa, .int 0, .int (-1), .int 0]))] := hD
  try dsimp only at hw
  rw [if_neg (fun c9 => lf_x_sores_1 k c9)] at hw
  refine k_topi (v := 0) hw ?_
  refine lv_if_ne (tgt := 14) hx₀ hb dX11_sores_8 (by decide) (fun c9 => absurd (by decide +kernel) c9) (fun _ => ?_)
  refine lv_bipush (v := (-2)) hx₀ hb dX11_sores_11 (by decide +kernel) ?_
  exact W.iret (v := (-2)) hx₀ hb hr (fun t₀ ht hW => ⟨⟨(-2), (), rfl, (by decide +kernel), trivial⟩, hS.F ht⟩) hS.2.2 dX11_sores_13
theorem lf_x_ask_1 (k : Int32) (c9 : 0 ≤ k ∧ k < (0 : Int32)) : False := by
  (first | omega | (simp only [Int64.le_iff_toInt_le, Int64.lt_iff_toInt_lt, Int32.le_iff_toInt_le, Int32.lt_iff_toInt_lt, ← Int32.toInt_inj, ← Int64.toInt_inj, Int32.toInt_toInt64, (show (0 : Int32).toInt = 0 from by decide), (show (0 : Int64).toInt = 0 from by decide)] at *; omega))
set_option maxHeartbeats 4000000 in
set_option maxRecDepth 100000 in
theorem x_ask (l : Launch) (dC : Nat → ClassId) (dI : Nat → Nat → Nat) (cI cJ cQ : ClassId) (sz : Nat) (hx : Nat) (k : Int32) (aLa : Nat) (aPa : Nat) (aGe : Nat) (aFl : Nat) (aTr : Nat) (aBe : Nat) (aLu : Nat) (aLo : Nat) (vSf : Nat) (vSm : Nat) (vCo : Nat) (vSh : Nat) (vPa : Nat) : Met l yX11_ask (kW yX11_ask cX11_ask 7 (some .int)) { frames := 1, cells := 0, slots := 0, locals := 21 } (kPre dC dI cI cJ cQ sz [.ref hx, .int k] [(hx, .inr (10, [.ref aLa, .ref aPa, .ref aGe, .ref aFl, .ref aTr, .ref aBe, .ref aLu, .ref aLo, .ref vSf, .ref vSm, .ref vCo, .ref vSh, .int 0, .int 0, .int 0])), (aPa, .inr (7, [.ref vPa, .int 0, .int (-1), .int 0]))]) (va_Qi (fun (r : Int32) (_ : Unit) => r = -2) (fun _ _ => True) (va_A [(hx, .inr (10, [.ref aLa, .ref aPa, .ref aGe, .ref aFl, .ref aTr, .ref aBe, .ref aLu, .ref aLo, .ref vSf, .ref vSm, .ref vCo, .ref vSh, .int 0, .int 0, .int 0])), (aPa, .inr (7, [.ref vPa, .int 0, .int (-1), .int 0]))] sz)) 0 0 (va_A [(hx, .inr (10, [.ref aLa, .ref aPa, .ref aGe, .ref aFl, .ref aTr, .ref aBe, .ref aLu, .ref aLo, .ref vSf, .ref vSm, .ref vCo, .ref vSh, .int 0, .int 0, .int 0])), (aPa, .inr (7, [.ref vPa, .int 0, .int (-1), .int 0]))] sz) := by
  refine Met.ofW (cc := cX11_ask) (maxL := 7) (ret := (some .int)) (by decide) rfl ?_
  intro p₀ e₀ s₀ m₀ args below meth c₀ s₁ B hml hv₀
  obtain ⟨rfl, hsz, hP, hK, hD0, hN⟩ := hv₀
  have hx₀ := B.exec
  have hb := B.bytes
  have hr := B.returns
  have hts := atoms_spec (ws := (kW yX11_ask cX11_ask 7 (some .int))) B.pre
  have hts := fun w h => hts w (List.mem_cons_of_mem _ h)
  have hown : s₀.vm.findClass RX11 = some m₀.cls := findClass_of_methodNamed B.named
  have hlocks := B.notSynchronized
  subst hsz
  have hD := hD0.self (sz := s₀.heap.size)
  generalize hAe : va_A [(hx, .inr (10, [.ref aLa, .ref aPa, .ref aGe, .ref aFl, .ref aTr, .ref aBe, .ref aLu, .ref aLo, .ref vSf, .ref vSm, .ref vCo, .ref vSh, .int 0, .int 0, .int 0])), (aPa, .inr (7, [.ref vPa, .int 0, .int (-1), .int 0]))] s₀.heap.size = A at hD ⊢
  have hA : ∀ q : Nat, s₀.heap.size ≤ q → A q := fun q h => by rw [← hAe]; exact Or.inr h
  have hS : va_S A s₀.heap s₀.heap [] := va_S.rf
  have hP : va_P (dC, dI) vwCl [(hx, .inr (10, [.ref aLa, .ref aPa, .ref aGe, .ref aFl, .ref aTr, .ref aBe, .ref aLu, .ref aLo, .ref vSf, .ref vSm, .ref vCo, .ref vSh, .int 0, .int 0, .int 0])), (aPa, .inr (7, [.ref vPa, .int 0, .int (-1), .int 0]))] s₀.heap := hP
  have hl := lv_entry ([.ref hx, .int k]) (n := 7) (Nat.le_of_ble_eq_true rfl)
  rw [lg_entry_eq]
  generalize (lg_sl ([.ref hx, .int k]) ++ List.replicate (7 - (lg_sl ([.ref hx, .int k])).length) Slot.unset).toArray = ls at hl ⊢
  have hl : lv_has ls 7 [(0, .ref hx), (1, .int k)] := hl
  obtain ⟨H, hH⟩ : ∃ z : Heap, z = s₀.heap := ⟨_, rfl⟩
  rw [← hH] at hP
  have hS : va_S A s₀.heap H [] := by rw [hH]; exact hS
  refine k_heap hH ?_
  have hD : va_D A [(hx, .inr (10, [.ref aLa, .ref aPa, .ref aGe, .ref aFl, .ref aTr, .ref aBe, .ref aLu, .ref aLo, .ref vSf, .ref vSm, .ref vCo, .ref vSh, .int 0, .int 0, .int 0])), (aPa, .inr (7, [.ref vPa, .int 0, .int (-1), .int 0]))] := hD
  obtain ⟨locs, hlo⟩ : ∃ z : List Loc, z = [] := ⟨_, rfl⟩
  rw [← hlo] at hS ⊢
  clear hlo hH hAe hD0
  refine lv_aload_n hx₀ hb dX11_ask_0 rfl (lv_at hl 0 rfl) ?_
  refine va_get (D := (dC, dI)) (ci := 10) (v := .ref aPa) (C := RX11) (T := TX11) (N := 15) hx₀ hb hts inlX11 hown hK hP 0 rfl rfl 1 (by decide) (hts (.fieldLink RX11 19 "BittenStick" "passengers" "LBittenStick$Passengers;") wd_19) (fun _ h9 => h9) rfl dX11_ask_1 ?_
  refine lv_iload_n hx₀ hb dX11_ask_4 rfl (lv_at hl 1 rfl) ?_
  have hPc := hP.sub (ws' := [(aPa, .inr (7, [.ref vPa, .int 0, .int (-1), .int 0]))]) [1] rfl
  have hDc := hD.sub (ws' := [(aPa, .inr (7, [.ref vPa, .int 0, .int (-1), .int 0]))]) [1] (by decide) rfl
  have hFc := va_free (wc := [(aPa, .inr (7, [.ref vPa, .int 0, .int (-1), .int 0]))]) hD hS hA [1] rfl
  refine va_calli (va_runU (As := [.int k]) (rest := []) ⟨hx₀, hb, hml, hown, hts⟩ (c_tHas_X7 l dC dI cI cJ cQ H.size aPa k vPa 0 (-1) 0) (va_cwU 1 hts (kGU wd_307 wd_303 wd_304 wd_305 wd_306 wd_57) rfl rfl rfl rfl (by decide +kernel) ⟨Nat.le_of_ble_eq_true rfl, Nat.le_of_ble_eq_true rfl⟩) (k_preV (ci := 7) (q0 := 0) hK hPc hDc hN rfl rfl) rfl rfl hl.1 rfl (lv_room (Nat.le_of_ble_eq_true rfl)) dX11_ask_5 ⟨by decide +kernel, by decide +kernel⟩) hS (fun q _ h => hFc q h) hFc (fun r_1 u₀ t₀ H1 locs ht hvm hw hB hz1 hk1 hS => ?_)
  obtain ⟨hP1, hK1, hD1⟩ := hB
  rw [ht] at hP1
  obtain ⟨hP, hD⟩ := va_join (wr := [(hx, .inr (10, [.ref aLa, .ref aPa, .ref aGe, .ref aFl, .ref aTr, .ref aBe, .ref aLu, .ref aLo, .ref vSf, .ref vSm, .ref vCo, .ref vSh, .int 0, .int 0, .int 0]))]) (w1 := [(aPa, .inr (7, [.ref vPa, .int 0, .int (-1), .int 0]))]) hP hD [1] [0] rfl rfl (by decide) (by decide) hk1 hFc hP1 hD1
  generalize H1 = H at hP hS ⊢
  have hP : va_P (dC, dI) vwCl [(hx, .inr (10, [.ref aLa, .ref aPa, .ref aGe, .ref aFl, .ref aTr, .ref aBe, .ref aLu, .ref aLo, .ref vSf, .ref vSm, .ref vCo, .ref vSh, .int 0, .int 0, .int 0])), (aPa, .inr (7, [.ref vPa, .int 0, .int (-1), .int 0]))] H := hP
  have hD : va_D A [(hx, .inr (10, [.ref aLa, .ref aPa, .ref aGe, .ref aFl, .ref aTr, .ref aBe, .ref aLu, .ref aLo, .ref vSf, .ref vSm, .ref vCo, .ref vSh, .int 0, .int 0, .int 0])), (aPa, .inr (7, [.ref vPa, .int 0, .int (-1), .int 0]))] := hD
  try dsimp only at hw
  rw [if_neg (fun c9 => lf_x_ask_1 k c9)] at hw
  refine k_topi (v := 0) hw ?_
  refine lv_if_ne (tgt := 14) hx₀ hb dX11_ask_8 (by decide) (fun c9 => absurd (by decide +kernel) c9) (fun _ => ?_)
  refine lv_bipush (v := (-2)) hx₀ hb dX11_ask_11 (by decide +kernel) ?_
  exact W.iret (v := (-2)) hx₀ hb hr (fun t₀ ht hW => ⟨⟨(-2), (), rfl, (by decide +kernel), trivial⟩, hS.F ht⟩) hS.2.2 dX11_ask_13
set_option maxHeartbeats 4000000 in
set_option maxRecDepth 100000 in
theorem x_laugh (l : Launch) (dC : Nat → ClassId) (dI : Nat → Nat → Nat) (cI cJ cQ : ClassId) (sz : Nat) (hx : Nat) (k : Int32) (f : Int32) (w : Int32) (aLa : Nat) (aPa : Nat) (aGe : Nat) (aFl : Nat) (aTr : Nat) (aBe : Nat) (aLu : Nat) (aLo : Nat) (vSf : Nat) (vSm : Nat) (vCo : Nat) (vSh : Nat) (vFl : Nat) : Met l yX11_laugh (kW yX11_laugh cX11_laugh 4 (some .long)) { frames := 1, cells := 0, slots := 0, locals := 21 } (kPre dC dI cI cJ cQ sz [.ref hx, .int k, .int f, .int w] [(hx, .inr (10, [.ref aLa, .ref aPa, .ref aGe, .ref aFl, .ref aTr, .ref aBe, .ref aLu, .ref aLo, .ref vSf, .ref vSm, .ref vCo, .ref vSh, .int 0, .int 0, .int 0])), (aFl, .inr (1, [.ref vFl, .int 0]))]) (va_Ql (fun (r : Int64) (_ : Unit) => r = (-9223372036854775806)) (fun _ _ => True) (va_A [(hx, .inr (10, [.ref aLa, .ref aPa, .ref aGe, .ref aFl, .ref aTr, .ref aBe, .ref aLu, .ref aLo, .ref vSf, .ref vSm, .ref vCo, .ref vSh, .int 0, .int 0, .int 0])), (aFl, .inr (1, [.ref vFl, .int 0]))] sz)) 0 0 (va_A [(hx, .inr (10, [.ref aLa, .ref aPa, .ref aGe, .ref aFl, .ref aTr, .ref aBe, .ref aLu, .ref aLo, .ref vSf, .ref vSm, .ref vCo, .ref vSh, .int 0, .int 0, .int 0])), (aFl, .inr (1, [.ref vFl, .int 0]))] sz) := by
  refine Met.ofW (cc := cX11_laugh) (maxL := 4) (ret := (some .long)) (by decide) rfl ?_
  intro p₀ e₀ s₀ m₀ args below meth c₀ s₁ B hml hv₀
  obtain ⟨rfl, hsz, hP, hK, hD0, hN⟩ := hv₀
  have hx₀ := B.exec
  have hb := B.bytes
  have hr := B.returns
  have hts := atoms_spec (ws := (kW yX11_laugh cX11_laugh 4 (some .long))) B.pre
  have hts := fun w h => hts w (List.mem_cons_of_mem _ h)
  have hown : s₀.vm.findClass RX11 = some m₀.cls := findClass_of_methodNamed B.named
  have hlocks := B.notSynchronized
  subst hsz
  have hD := hD0.self (sz := s₀.heap.size)
  generalize hAe : va_A [(hx, .inr (10, [.ref aLa, .ref aPa, .ref aGe, .ref aFl, .ref aTr, .ref aBe, .ref aLu, .ref aLo, .ref vSf, .ref vSm, .ref vCo, .ref vSh, .int 0, .int 0, .int 0])), (aFl, .inr (1, [.ref vFl, .int 0]))] s₀.heap.size = A at hD ⊢
  have hA : ∀ q : Nat, s₀.heap.size ≤ q → A q := fun q h => by rw [← hAe]; exact Or.inr h
  have hS : va_S A s₀.heap s₀.heap [] := va_S.rf
  have hP : va_P (dC, dI) vwCl [(hx, .inr (10, [.ref aLa, .ref aPa, .ref aGe, .ref aFl, .ref aTr, .ref aBe, .ref aLu, .ref aLo, .ref vSf, .ref vSm, .ref vCo, .ref vSh, .int 0, .int 0, .int 0])), (aFl, .inr (1, [.ref vFl, .int 0]))] s₀.heap := hP
  have hl := lv_entry ([.ref hx, .int k, .int f, .int w]) (n := 4) (Nat.le_of_ble_eq_true rfl)
  rw [lg_entry_eq]
  generalize (lg_sl ([.ref hx, .int k, .int f, .int w]) ++ List.replicate (4 - (lg_sl ([.ref hx, .int k, .int f, .int w])).length) Slot.unset).toArray = ls at hl ⊢
  have hl : lv_has ls 4 [(0, .ref hx), (1, .int k), (2, .int f), (3, .int w)] := hl
  obtain ⟨H, hH⟩ : ∃ z : Heap, z = s₀.heap := ⟨_, rfl⟩
  rw [← hH] at hP
  have hS : va_S A s₀.heap H [] := by rw [hH]; exact hS
  refine k_heap hH ?_
  have hD : va_D A [(hx, .inr (10, [.ref aLa, .ref aPa, .ref aGe, .ref aFl, .ref aTr, .ref aBe, .ref aLu, .ref aLo, .ref vSf, .ref vSm, .ref vCo, .ref vSh, .int 0, .int 0, .int 0])), (aFl, .inr (1, [.ref vFl, .int 0]))] := hD
  obtain ⟨locs, hlo⟩ : ∃ z : List Loc, z = [] := ⟨_, rfl⟩
  rw [← hlo] at hS ⊢
  clear hlo hH hAe hD0
  refine lv_iload_n hx₀ hb dX11_laugh_0 rfl (lv_at hl 1 rfl) ?_
  refine lv_if_lt (tgt := 42) hx₀ hb dX11_laugh_1 (by decide) (fun c_1 => ?_) (fun c_1 => ?_)
  · refine lv_ldc2 (v := (-9223372036854775806)) hx₀ hb hown (hts (.constantLong RX11 210 (-9223372036854775806)) wd_764) dX11_laugh_42 ?_
    exact W.lret (v := (-9223372036854775806)) hx₀ hb hr (fun t₀ ht hW => ⟨⟨(-9223372036854775806), (), rfl, rfl, trivial⟩, hS.F ht⟩) hS.2.2 dX11_laugh_45
  · refine lv_iload_n hx₀ hb dX11_laugh_4 rfl (lv_at hl 1 rfl) ?_
    refine lv_bipush (v := 16) hx₀ hb dX11_laugh_5 (by decide +kernel) ?_
    refine lv_icmp_gt (tgt := 42) hx₀ hb dX11_laugh_7 (by decide) (fun c_2 => ?_) (fun c_2 => ?_)
    · refine lv_ldc2 (v := (-9223372036854775806)) hx₀ hb hown (hts (.constantLong RX11 210 (-9223372036854775806)) wd_764) dX11_laugh_42 ?_
      exact W.lret (v := (-9223372036854775806)) hx₀ hb hr (fun t₀ ht hW => ⟨⟨(-9223372036854775806), (), rfl, rfl, trivial⟩, hS.F ht⟩) hS.2.2 dX11_laugh_45
    · refine lv_aload_n hx₀ hb dX11_laugh_10 rfl (lv_at hl 0 rfl) ?_
      refine va_get (D := (dC, dI)) (ci := 10) (v := .ref aFl) (C := RX11) (T := TX11) (N := 15) hx₀ hb hts inlX11 hown hK hP 0 rfl rfl 3 (by decide) (hts (.fieldLink RX11 33 "BittenStick" "flights" "LBittenStick$Flights;") wd_27) (fun _ h9 => h9) rfl dX11_laugh_11 ?_
      refine lv_iload_n hx₀ hb dX11_laugh_14 rfl (lv_at hl 2 rfl) ?_
      have hPc := hP.sub (ws' := [(aFl, .inr (1, [.ref vFl, .int 0]))]) [1] rfl
      have hDc := hD.sub (ws' := [(aFl, .inr (1, [.ref vFl, .int 0]))]) [1] (by decide) rfl
      have hFc := va_free (wc := [(aFl, .inr (1, [.ref vFl, .int 0]))]) hD hS hA [1] rfl
      refine va_calli (va_runV (As := [.int f]) (rest := []) ⟨hx₀, hb, hml, hown, hts⟩ (c_has0 l dC dI cI cJ cQ H.size aFl f vFl) (cwV 1 hts (kGV wd_426 wd_423 wd_424 wd_425 wd_26) rfl rfl rfl (by decide +kernel) ⟨Nat.le_of_ble_eq_true rfl, Nat.le_of_ble_eq_true rfl⟩) (k_preV (ci := 1) (q0 := 0) hK hPc hDc hN rfl rfl) rfl rfl hl.1 rfl (lv_room (Nat.le_of_ble_eq_true rfl)) dX11_laugh_15 ⟨by decide +kernel, by decide +kernel⟩) hS (fun q _ h => hFc q h) hFc (fun r_3 u₀ t₀ H1 locs ht hvm hw hB hz1 hk1 hS => ?_)
      obtain ⟨hP1, hK1, hD1⟩ := hB
      rw [ht] at hP1
      obtain ⟨hP, hD⟩ := va_join (wr := [(hx, .inr (10, [.ref aLa, .ref aPa, .ref aGe, .ref aFl, .ref aTr, .ref aBe, .ref aLu, .ref aLo, .ref vSf, .ref vSm, .ref vCo, .ref vSh, .int 0, .int 0, .int 0]))]) (w1 := [(aFl, .inr (1, [.ref vFl, .int 0]))]) hP hD [1] [0] rfl rfl (by decide) (by decide) hk1 hFc hP1 hD1
      generalize H1 = H at hP hS ⊢
      have hP : va_P (dC, dI) vwCl [(hx, .inr (10, [.ref aLa, .ref aPa, .ref aGe, .ref aFl, .ref aTr, .ref aBe, .ref aLu, .ref aLo, .ref vSf, .ref vSm, .ref vCo, .ref vSh, .int 0, .int 0, .int 0])), (aFl, .inr (1, [.ref vFl, .int 0]))] H := hP
      have hD : va_D A [(hx, .inr (10, [.ref aLa, .ref aPa, .ref aGe, .ref aFl, .ref aTr, .ref aBe, .ref aLu, .ref aLo, .ref vSf, .ref vSm, .ref vCo, .ref vSh, .int 0, .int 0, .int 0])), (aFl, .inr (1, [.ref vFl, .int 0]))] := hD
      try dsimp only at hw
      refine k_topi (v := 0) hw ?_
      refine lv_if_eq (tgt := 42) hx₀ hb dX11_laugh_18 (by decide) (fun _ => ?_) (fun c9 => absurd (by decide +kernel) c9)
      refine lv_ldc2 (v := (-9223372036854775806)) hx₀ hb hown (hts (.constantLong RX11 210 (-9223372036854775806)) wd_764) dX11_laugh_42 ?_
      exact W.lret (v := (-9223372036854775806)) hx₀ hb hr (fun t₀ ht hW => ⟨⟨(-9223372036854775806), (), rfl, rfl, trivial⟩, hS.F ht⟩) hS.2.2 dX11_laugh_45
theorem lf_x_lakes_1 (n : Int32) (w : Int32) (c_1 : n < 1) : ((-2) : Int32) = if 1 ≤ n ∧ n ≤ 99 ∧ 0 ≤ w ∧ w ≤ 1 then 0 else -2 := by
  repeat first | rfl | rw [if_pos (by (first | omega | (simp only [Int64.le_iff_toInt_le, Int64.lt_iff_toInt_lt, Int32.le_iff_toInt_le, Int32.lt_iff_toInt_lt, ← Int32.toInt_inj, ← Int64.toInt_inj, Int32.toInt_toInt64, (show (-2 : Int32).toInt = -2 from by decide), (show (-2 : Int64).toInt = -2 from by decide), (show (0 : Int32).toInt = 0 from by decide), (show (0 : Int64).toInt = 0 from by decide), (show (1 : Int32).toInt = 1 from by decide), (show (1 : Int64).toInt = 1 from by decide), (show (99 : Int32).toInt = 99 from by decide), (show (99 : Int64).toInt = 99 from by decide)] at *; omega)))] | rw [if_neg (by (first | omega | (simp only [Int64.le_iff_toInt_le, Int64.lt_iff_toInt_lt, Int32.le_iff_toInt_le, Int32.lt_iff_toInt_lt, ← Int32.toInt_inj, ← Int64.toInt_inj, Int32.toInt_toInt64, (show (-2 : Int32).toInt = -2 from by decide), (show (-2 : Int64).toInt = -2 from by decide), (show (0 : Int32).toInt = 0 from by decide), (show (0 : Int64).toInt = 0 from by decide), (show (1 : Int32).toInt = 1 from by decide), (show (1 : Int64).toInt = 1 from by decide), (show (99 : Int32).toInt = 99 from by decide), (show (99 : Int64).toInt = 99 from by decide)] at *; omega)))]
theorem lf_x_lakes_2 (n : Int32) (w : Int32) (c_1 : ¬ n < 1) (c_2 : 99 < n) : ((-2) : Int32) = if 1 ≤ n ∧ n ≤ 99 ∧ 0 ≤ w ∧ w ≤ 1 then 0 else -2 := by
  repeat first | rfl | rw [if_pos (by (first | omega | (simp only [Int64.le_iff_toInt_le, Int64.lt_iff_toInt_lt, Int32.le_iff_toInt_le, Int32.lt_iff_toInt_lt, ← Int32.toInt_inj, ← Int64.toInt_inj, Int32.toInt_toInt64, (show (-2 : Int32).toInt = -2 from by decide), (show (-2 : Int64).toInt = -2 from by decide), (show (0 : Int32).toInt = 0 from by decide), (show (0 : Int64).toInt = 0 from by decide), (show (1 : Int32).toInt = 1 from by decide), (show (1 : Int64).toInt = 1 from by decide), (show (99 : Int32).toInt = 99 from by decide), (show (99 : Int64).toInt = 99 from by decide)] at *; omega)))] | rw [if_neg (by (first | omega | (simp only [Int64.le_iff_toInt_le, Int64.lt_iff_toInt_lt, Int32.le_iff_toInt_le, Int32.lt_iff_toInt_lt, ← Int32.toInt_inj, ← Int64.toInt_inj, Int32.toInt_toInt64, (show (-2 : Int32).toInt = -2 from by decide), (show (-2 : Int64).toInt = -2 from by decide), (show (0 : Int32).toInt = 0 from by decide), (show (0 : Int64).toInt = 0 from by decide), (show (1 : Int32).toInt = 1 from by decide), (show (1 : Int64).toInt = 1 from by decide), (show (99 : Int32).toInt = 99 from by decide), (show (99 : Int64).toInt = 99 from by decide)] at *; omega)))]
theorem lf_x_lakes_3 (n : Int32) (w : Int32) (c_1 : ¬ n < 1) (c_2 : ¬ 99 < n) (c_3 : w < 0) : ((-2) : Int32) = if 1 ≤ n ∧ n ≤ 99 ∧ 0 ≤ w ∧ w ≤ 1 then 0 else -2 := by
  repeat first | rfl | rw [if_pos (by (first | omega | (simp only [Int64.le_iff_toInt_le, Int64.lt_iff_toInt_lt, Int32.le_iff_toInt_le, Int32.lt_iff_toInt_lt, ← Int32.toInt_inj, ← Int64.toInt_inj, Int32.toInt_toInt64, (show (-2 : Int32).toInt = -2 from by decide), (show (-2 : Int64).toInt = -2 from by decide), (show (0 : Int32).toInt = 0 from by decide), (show (0 : Int64).toInt = 0 from by decide), (show (1 : Int32).toInt = 1 from by decide), (show (1 : Int64).toInt = 1 from by decide), (show (99 : Int32).toInt = 99 from by decide), (show (99 : Int64).toInt = 99 from by decide)] at *; omega)))] | rw [if_neg (by (first | omega | (simp only [Int64.le_iff_toInt_le, Int64.lt_iff_toInt_lt, Int32.le_iff_toInt_le, Int32.lt_iff_toInt_lt, ← Int32.toInt_inj, ← Int64.toInt_inj, Int32.toInt_toInt64, (show (-2 : Int32).toInt = -2 from by decide), (show (-2 : Int64).toInt = -2 from by decide), (show (0 : Int32).toInt = 0 from by decide), (show (0 : Int64).toInt = 0 from by decide), (show (1 : Int32).toInt = 1 from by decide), (show (1 : Int64).toInt = 1 from by decide), (show (99 : Int32).toInt = 99 from by decide), (show (99 : Int64).toInt = 99 from by decide)] at *; omega)))]
theorem lf_x_lakes_4 (n : Int32) (w : Int32) (c_1 : ¬ n < 1) (c_2 : ¬ 99 < n) (c_3 : ¬ w < 0) (c_4 : w ≤ 1) : (0 : Int32) = if 1 ≤ n ∧ n ≤ 99 ∧ 0 ≤ w ∧ w ≤ 1 then 0 else -2 := by
  repeat first | rfl | rw [if_pos (by (first | omega | (simp only [Int64.le_iff_toInt_le, Int64.lt_iff_toInt_lt, Int32.le_iff_toInt_le, Int32.lt_iff_toInt_lt, ← Int32.toInt_inj, ← Int64.toInt_inj, Int32.toInt_toInt64, (show (-2 : Int32).toInt = -2 from by decide), (show (-2 : Int64).toInt = -2 from by decide), (show (0 : Int32).toInt = 0 from by decide), (show (0 : Int64).toInt = 0 from by decide), (show (1 : Int32).toInt = 1 from by decide), (show (1 : Int64).toInt = 1 from by decide), (show (99 : Int32).toInt = 99 from by decide), (show (99 : Int64).toInt = 99 from by decide)] at *; omega)))] | rw [if_neg (by (first | omega | (simp only [Int64.le_iff_toInt_le, Int64.lt_iff_toInt_lt, Int32.le_iff_toInt_le, Int32.lt_iff_toInt_lt, ← Int32.toInt_inj, ← Int64.toInt_inj, Int32.toInt_toInt64, (show (-2 : Int32).toInt = -2 from by decide), (show (-2 : Int64).toInt = -2 from by decide), (show (0 : Int32).toInt = 0 from by decide), (show (0 : Int64).toInt = 0 from by decide), (show (1 : Int32).toInt = 1 from by decide), (show (1 : Int64).toInt = 1 from by decide), (show (99 : Int32).toInt = 99 from by decide), (show (99 : Int64).toInt = 99 from by decide)] at *; omega)))]
theorem lf_x_lakes_5 (n : Int32) (w : Int32) (c_1 : ¬ n < 1) (c_2 : ¬ 99 < n) (c_3 : ¬ w < 0) (c_4 : ¬ w ≤ 1) : ((-2) : Int32) = if 1 ≤ n ∧ n ≤ 99 ∧ 0 ≤ w ∧ w ≤ 1 then 0 else -2 := by
  repeat first | rfl | rw [if_pos (by (first | omega | (simp only [Int64.le_iff_toInt_le, Int64.lt_iff_toInt_lt, Int32.le_iff_toInt_le, Int32.lt_iff_toInt_lt, ← Int32.toInt_inj, ← Int64.toInt_inj, Int32.toInt_toInt64, (show (-2 : Int32).toInt = -2 from by decide), (show (-2 : Int64).toInt = -2 from by decide), (show (0 : Int32).toInt = 0 from by decide), (show (0 : Int64).toInt = 0 from by decide), (show (1 : Int32).toInt = 1 from by decide), (show (1 : Int64).toInt = 1 from by decide), (show (99 : Int32).toInt = 99 from by decide), (show (99 : Int64).toInt = 99 from by decide)] at *; omega)))] | rw [if_neg (by (first | omega | (simp only [Int64.le_iff_toInt_le, Int64.lt_iff_toInt_lt, Int32.le_iff_toInt_le, Int32.lt_iff_toInt_lt, ← Int32.toInt_inj, ← Int64.toInt_inj, Int32.toInt_toInt64, (show (-2 : Int32).toInt = -2 from by decide), (show (-2 : Int64).toInt = -2 from by decide), (show (0 : Int32).toInt = 0 from by decide), (show (0 : Int64).toInt = 0 from by decide), (show (1 : Int32).toInt = 1 from by decide), (show (1 : Int64).toInt = 1 from by decide), (show (99 : Int32).toInt = 99 from by decide), (show (99 : Int64).toInt = 99 from by decide)] at *; omega)))]
set_option maxHeartbeats 4000000 in
set_option maxRecDepth 100000 in
theorem x_lakes (l : Launch) (dC : Nat → ClassId) (dI : Nat → Nat → Nat) (cI cJ cQ : ClassId) (sz : Nat) (hx : Nat) (z : Int32) (n : Int32) (w : Int32) (aLa : Nat) (aPa : Nat) (aGe : Nat) (aFl : Nat) (aTr : Nat) (aBe : Nat) (aLu : Nat) (aLo : Nat) (vSf : Nat) (vSm : Nat) (vCo : Nat) (vSh : Nat) (vPa : Nat) (vGe : Nat) : Met l yX11_lakes (kW yX11_lakes cX11_lakes 10 (some .int)) { frames := 0, cells := 0, slots := 0, locals := 0 } (kPre dC dI cI cJ cQ sz [.ref hx, .int z, .int n, .int w] [(hx, .inr (10, [.ref aLa, .ref aPa, .ref aGe, .ref aFl, .ref aTr, .ref aBe, .ref aLu, .ref aLo, .ref vSf, .ref vSm, .ref vCo, .ref vSh, .int 0, .int 0, .int 0])), (aPa, .inr (7, [.ref vPa, .int 0, .int (-1), .int 0])), (aGe, .inr (2, [.ref vGe, .int 0, .int (-1), .int 0]))]) (va_Qi (fun (r : Int32) (_ : Unit) => r = if 1 ≤ n ∧ n ≤ 99 ∧ 0 ≤ w ∧ w ≤ 1 then 0 else -2) (fun _ t₀ => kB dC dI cI cJ cQ (va_A [(hx, .inr (10, [.ref aLa, .ref aPa, .ref aGe, .ref aFl, .ref aTr, .ref aBe, .ref aLu, .ref aLo, .ref vSf, .ref vSm, .ref vCo, .ref vSh, .int 0, .int 0, .int 0])), (aPa, .inr (7, [.ref vPa, .int 0, .int (-1), .int 0])), (aGe, .inr (2, [.ref vGe, .int 0, .int (-1), .int 0]))] sz) [(hx, .inr (10, [.ref aLa, .ref aPa, .ref aGe, .ref aFl, .ref aTr, .ref aBe, .ref aLu, .ref aLo, .ref vSf, .ref vSm, .ref vCo, .ref vSh, .int 0, .int 0, .int 0])), (aPa, .inr (7, [.ref vPa, .int 0, .int (-1), .int 0])), (aGe, .inr (2, [.ref vGe, .int 0, .int (-1), .int 0]))] t₀) (va_A [(hx, .inr (10, [.ref aLa, .ref aPa, .ref aGe, .ref aFl, .ref aTr, .ref aBe, .ref aLu, .ref aLo, .ref vSf, .ref vSm, .ref vCo, .ref vSh, .int 0, .int 0, .int 0])), (aPa, .inr (7, [.ref vPa, .int 0, .int (-1), .int 0])), (aGe, .inr (2, [.ref vGe, .int 0, .int (-1), .int 0]))] sz)) 0 0 (va_A [(hx, .inr (10, [.ref aLa, .ref aPa, .ref aGe, .ref aFl, .ref aTr, .ref aBe, .ref aLu, .ref aLo, .ref vSf, .ref vSm, .ref vCo, .ref vSh, .int 0, .int 0, .int 0])), (aPa, .inr (7, [.ref vPa, .int 0, .int (-1), .int 0])), (aGe, .inr (2, [.ref vGe, .int 0, .int (-1), .int 0]))] sz) := by
  refine Met.ofW (cc := cX11_lakes) (maxL := 10) (ret := (some .int)) (by decide) rfl ?_
  intro p₀ e₀ s₀ m₀ args below meth c₀ s₁ B hml hv₀
  obtain ⟨rfl, hsz, hP, hK, hD0, hN⟩ := hv₀
  have hx₀ := B.exec
  have hb := B.bytes
  have hr := B.returns
  have hts := atoms_spec (ws := (kW yX11_lakes cX11_lakes 10 (some .int))) B.pre
  have hts := fun w h => hts w (List.mem_cons_of_mem _ h)
  have hown : s₀.vm.findClass RX11 = some m₀.cls := findClass_of_methodNamed B.named
  have hlocks := B.notSynchronized
  subst hsz
  have hD := hD0.self (sz := s₀.heap.size)
  generalize hAe : va_A [(hx, .inr (10, [.ref aLa, .ref aPa, .ref aGe, .ref aFl, .ref aTr, .ref aBe, .ref aLu, .ref aLo, .ref vSf, .ref vSm, .ref vCo, .ref vSh, .int 0, .int 0, .int 0])), (aPa, .inr (7, [.ref vPa, .int 0, .int (-1), .int 0])), (aGe, .inr (2, [.ref vGe, .int 0, .int (-1), .int 0]))] s₀.heap.size = A at hD ⊢
  have hA : ∀ q : Nat, s₀.heap.size ≤ q → A q := fun q h => by rw [← hAe]; exact Or.inr h
  have hS : va_S A s₀.heap s₀.heap [] := va_S.rf
  have hP : va_P (dC, dI) vwCl [(hx, .inr (10, [.ref aLa, .ref aPa, .ref aGe, .ref aFl, .ref aTr, .ref aBe, .ref aLu, .ref aLo, .ref vSf, .ref vSm, .ref vCo, .ref vSh, .int 0, .int 0, .int 0])), (aPa, .inr (7, [.ref vPa, .int 0, .int (-1), .int 0])), (aGe, .inr (2, [.ref vGe, .int 0, .int (-1), .int 0]))] s₀.heap := hP
  have hl := lv_entry ([.ref hx, .int z, .int n, .int w]) (n := 10) (Nat.le_of_ble_eq_true rfl)
  rw [lg_entry_eq]
  generalize (lg_sl ([.ref hx, .int z, .int n, .int w]) ++ List.replicate (10 - (lg_sl ([.ref hx, .int z, .int n, .int w])).length) Slot.unset).toArray = ls at hl ⊢
  have hl : lv_has ls 10 [(0, .ref hx), (1, .int z), (2, .int n), (3, .int w)] := hl
  obtain ⟨H, hH⟩ : ∃ z : Heap, z = s₀.heap := ⟨_, rfl⟩
  rw [← hH] at hP
  have hS : va_S A s₀.heap H [] := by rw [hH]; exact hS
  refine k_heap hH ?_
  have hD : va_D A [(hx, .inr (10, [.ref aLa, .ref aPa, .ref aGe, .ref aFl, .ref aTr, .ref aBe, .ref aLu, .ref aLo, .ref vSf, .ref vSm, .ref vCo, .ref vSh, .int 0, .int 0, .int 0])), (aPa, .inr (7, [.ref vPa, .int 0, .int (-1), .int 0])), (aGe, .inr (2, [.ref vGe, .int 0, .int (-1), .int 0]))] := hD
  obtain ⟨locs, hlo⟩ : ∃ z : List Loc, z = [] := ⟨_, rfl⟩
  rw [← hlo] at hS ⊢
  clear hlo hH hAe hD0
  refine lv_iload_n hx₀ hb dX11_lakes_0 rfl (lv_at hl 2 rfl) ?_
  refine lv_iconst (v := 1) hx₀ hb dX11_lakes_1 (by decide +kernel) ?_
  refine lv_icmp_lt (tgt := 20) hx₀ hb dX11_lakes_2 (by decide) (fun c_1 => ?_) (fun c_1 => ?_)
  · refine lv_bipush (v := (-2)) hx₀ hb dX11_lakes_20 (by decide +kernel) ?_
    have hP9 := hP.sub (ws' := [(hx, .inr (10, [.ref aLa, .ref aPa, .ref aGe, .ref aFl, .ref aTr, .ref aBe, .ref aLu, .ref aLo, .ref vSf, .ref vSm, .ref vCo, .ref vSh, .int 0, .int 0, .int 0])), (aPa, .inr (7, [.ref vPa, .int 0, .int (-1), .int 0])), (aGe, .inr (2, [.ref vGe, .int 0, .int (-1), .int 0]))]) [0, 1, 2] rfl
    have hD9 := hD.sub (ws' := [(hx, .inr (10, [.ref aLa, .ref aPa, .ref aGe, .ref aFl, .ref aTr, .ref aBe, .ref aLu, .ref aLo, .ref vSf, .ref vSm, .ref vCo, .ref vSh, .int 0, .int 0, .int 0])), (aPa, .inr (7, [.ref vPa, .int 0, .int (-1), .int 0])), (aGe, .inr (2, [.ref vGe, .int 0, .int (-1), .int 0]))]) [0, 1, 2] (by decide) rfl
    exact W.iret (v := (-2)) hx₀ hb hr (fun t₀ ht hW => ⟨⟨(-2), (), rfl, (lf_x_lakes_1 n w c_1), by rw [ht]; exact hP9, va_K.moved hW.alike hK, hD9⟩, hS.F ht⟩) hS.2.2 dX11_lakes_22
  · refine lv_iload_n hx₀ hb dX11_lakes_5 rfl (lv_at hl 2 rfl) ?_
    refine lv_bipush (v := 99) hx₀ hb dX11_lakes_6 (by decide +kernel) ?_
    refine lv_icmp_gt (tgt := 20) hx₀ hb dX11_lakes_8 (by decide) (fun c_2 => ?_) (fun c_2 => ?_)
    · refine lv_bipush (v := (-2)) hx₀ hb dX11_lakes_20 (by decide +kernel) ?_
      have hP9 := hP.sub (ws' := [(hx, .inr (10, [.ref aLa, .ref aPa, .ref aGe, .ref aFl, .ref aTr, .ref aBe, .ref aLu, .ref aLo, .ref vSf, .ref vSm, .ref vCo, .ref vSh, .int 0, .int 0, .int 0])), (aPa, .inr (7, [.ref vPa, .int 0, .int (-1), .int 0])), (aGe, .inr (2, [.ref vGe, .int 0, .int (-1), .int 0]))]) [0, 1, 2] rfl
      have hD9 := hD.sub (ws' := [(hx, .inr (10, [.ref aLa, .ref aPa, .ref aGe, .ref aFl, .ref aTr, .ref aBe, .ref aLu, .ref aLo, .ref vSf, .ref vSm, .ref vCo, .ref vSh, .int 0, .int 0, .int 0])), (aPa, .inr (7, [.ref vPa, .int 0, .int (-1), .int 0])), (aGe, .inr (2, [.ref vGe, .int 0, .int (-1), .int 0]))]) [0, 1, 2] (by decide) rfl
      exact W.iret (v := (-2)) hx₀ hb hr (fun t₀ ht hW => ⟨⟨(-2), (), rfl, (lf_x_lakes_2 n w c_1 c_2), by rw [ht]; exact hP9, va_K.moved hW.alike hK, hD9⟩, hS.F ht⟩) hS.2.2 dX11_lakes_22
    · refine lv_iload_n hx₀ hb dX11_lakes_11 rfl (lv_at hl 3 rfl) ?_
      refine lv_if_lt (tgt := 20) hx₀ hb dX11_lakes_12 (by decide) (fun c_3 => ?_) (fun c_3 => ?_)
      · refine lv_bipush (v := (-2)) hx₀ hb dX11_lakes_20 (by decide +kernel) ?_
        have hP9 := hP.sub (ws' := [(hx, .inr (10, [.ref aLa, .ref aPa, .ref aGe, .ref aFl, .ref aTr, .ref aBe, .ref aLu, .ref aLo, .ref vSf, .ref vSm, .ref vCo, .ref vSh, .int 0, .int 0, .int 0])), (aPa, .inr (7, [.ref vPa, .int 0, .int (-1), .int 0])), (aGe, .inr (2, [.ref vGe, .int 0, .int (-1), .int 0]))]) [0, 1, 2] rfl
        have hD9 := hD.sub (ws' := [(hx, .inr (10, [.ref aLa, .ref aPa, .ref aGe, .ref aFl, .ref aTr, .ref aBe, .ref aLu, .ref aLo, .ref vSf, .ref vSm, .ref vCo, .ref vSh, .int 0, .int 0, .int 0])), (aPa, .inr (7, [.ref vPa, .int 0, .int (-1), .int 0])), (aGe, .inr (2, [.ref vGe, .int 0, .int (-1), .int 0]))]) [0, 1, 2] (by decide) rfl
        exact W.iret (v := (-2)) hx₀ hb hr (fun t₀ ht hW => ⟨⟨(-2), (), rfl, (lf_x_lakes_3 n w c_1 c_2 c_3), by rw [ht]; exact hP9, va_K.moved hW.alike hK, hD9⟩, hS.F ht⟩) hS.2.2 dX11_lakes_22
      · refine lv_iload_n hx₀ hb dX11_lakes_15 rfl (lv_at hl 3 rfl) ?_
        refine lv_iconst (v := 1) hx₀ hb dX11_lakes_16 (by decide +kernel) ?_
        refine lv_icmp_le (tgt := 23) hx₀ hb dX11_lakes_17 (by decide) (fun c_4 => ?_) (fun c_4 => ?_)
        · refine lv_aload_n hx₀ hb dX11_lakes_23 rfl (lv_at hl 0 rfl) ?_
          refine va_get (D := (dC, dI)) (ci := 10) (v := .ref aPa) (C := RX11) (T := TX11) (N := 15) hx₀ hb hts inlX11 hown hK hP 0 rfl rfl 1 (by decide) (hts (.fieldLink RX11 19 "BittenStick" "passengers" "LBittenStick$Passengers;") wd_19) (fun _ h9 => h9) rfl dX11_lakes_24 ?_
          refine va_get (D := (dC, dI)) (ci := 7) (v := .int 0) (C := RX7) (T := TX7) (N := 4) hx₀ hb hts inlX7 hown hK hP 1 rfl rfl 3 (by decide) (hts (.fieldLink RX11 223 "BittenStick$Passengers" "number" "I") wd_834) (fun x9 h9 => u_same (hts (.sameField "BittenStick$Passengers" "BittenStick$Text" "number" "I") wd_835) x9 h9) rfl dX11_lakes_27 ?_
          refine lv_iconst (v := 1) hx₀ hb dX11_lakes_30 (by decide +kernel) ?_
          refine lv_icmp_lt (tgt := 45) hx₀ hb dX11_lakes_31 (by decide) (fun _ => ?_) (fun c9 => absurd (by decide +kernel) c9)
          refine lv_iconst (v := 0) hx₀ hb dX11_lakes_45 (by decide +kernel) ?_
          have hP9 := hP.sub (ws' := [(hx, .inr (10, [.ref aLa, .ref aPa, .ref aGe, .ref aFl, .ref aTr, .ref aBe, .ref aLu, .ref aLo, .ref vSf, .ref vSm, .ref vCo, .ref vSh, .int 0, .int 0, .int 0])), (aPa, .inr (7, [.ref vPa, .int 0, .int (-1), .int 0])), (aGe, .inr (2, [.ref vGe, .int 0, .int (-1), .int 0]))]) [0, 1, 2] rfl
          have hD9 := hD.sub (ws' := [(hx, .inr (10, [.ref aLa, .ref aPa, .ref aGe, .ref aFl, .ref aTr, .ref aBe, .ref aLu, .ref aLo, .ref vSf, .ref vSm, .ref vCo, .ref vSh, .int 0, .int 0, .int 0])), (aPa, .inr (7, [.ref vPa, .int 0, .int (-1), .int 0])), (aGe, .inr (2, [.ref vGe, .int 0, .int (-1), .int 0]))]) [0, 1, 2] (by decide) rfl
          exact W.iret (v := 0) hx₀ hb hr (fun t₀ ht hW => ⟨⟨0, (), rfl, (lf_x_lakes_4 n w c_1 c_2 c_3 c_4), by rw [ht]; exact hP9, va_K.moved hW.alike hK, hD9⟩, hS.F ht⟩) hS.2.2 dX11_lakes_46
        · refine lv_bipush (v := (-2)) hx₀ hb dX11_lakes_20 (by decide +kernel) ?_
          have hP9 := hP.sub (ws' := [(hx, .inr (10, [.ref aLa, .ref aPa, .ref aGe, .ref aFl, .ref aTr, .ref aBe, .ref aLu, .ref aLo, .ref vSf, .ref vSm, .ref vCo, .ref vSh, .int 0, .int 0, .int 0])), (aPa, .inr (7, [.ref vPa, .int 0, .int (-1), .int 0])), (aGe, .inr (2, [.ref vGe, .int 0, .int (-1), .int 0]))]) [0, 1, 2] rfl
          have hD9 := hD.sub (ws' := [(hx, .inr (10, [.ref aLa, .ref aPa, .ref aGe, .ref aFl, .ref aTr, .ref aBe, .ref aLu, .ref aLo, .ref vSf, .ref vSm, .ref vCo, .ref vSh, .int 0, .int 0, .int 0])), (aPa, .inr (7, [.ref vPa, .int 0, .int (-1), .int 0])), (aGe, .inr (2, [.ref vGe, .int 0, .int (-1), .int 0]))]) [0, 1, 2] (by decide) rfl
          exact W.iret (v := (-2)) hx₀ hb hr (fun t₀ ht hW => ⟨⟨(-2), (), rfl, (lf_x_lakes_5 n w c_1 c_2 c_3 c_4), by rw [ht]; exact hP9, va_K.moved hW.alike hK, hD9⟩, hS.F ht⟩) hS.2.2 dX11_lakes_22
theorem lf_x_lose_1 (s : Int32) (c_2 : s = 0) : ((-11) : Int32) = if 0 ≤ s ∧ s ≤ 3 then -11 else -2 := by
  repeat first | rfl | rw [if_pos (by (first | omega | (simp only [Int64.le_iff_toInt_le, Int64.lt_iff_toInt_lt, Int32.le_iff_toInt_le, Int32.lt_iff_toInt_lt, ← Int32.toInt_inj, ← Int64.toInt_inj, Int32.toInt_toInt64, (show (-11 : Int32).toInt = -11 from by decide), (show (-11 : Int64).toInt = -11 from by decide), (show (-2 : Int32).toInt = -2 from by decide), (show (-2 : Int64).toInt = -2 from by decide), (show (0 : Int32).toInt = 0 from by decide), (show (0 : Int64).toInt = 0 from by decide), (show (3 : Int32).toInt = 3 from by decide), (show (3 : Int64).toInt = 3 from by decide)] at *; omega)))] | rw [if_neg (by (first | omega | (simp only [Int64.le_iff_toInt_le, Int64.lt_iff_toInt_lt, Int32.le_iff_toInt_le, Int32.lt_iff_toInt_lt, ← Int32.toInt_inj, ← Int64.toInt_inj, Int32.toInt_toInt64, (show (-11 : Int32).toInt = -11 from by decide), (show (-11 : Int64).toInt = -11 from by decide), (show (-2 : Int32).toInt = -2 from by decide), (show (-2 : Int64).toInt = -2 from by decide), (show (0 : Int32).toInt = 0 from by decide), (show (0 : Int64).toInt = 0 from by decide), (show (3 : Int32).toInt = 3 from by decide), (show (3 : Int64).toInt = 3 from by decide)] at *; omega)))]
theorem lf_x_lose_2 (s : Int32) (c_2 : ¬ (s = 0)) (c_4 : s = 1) : ((-11) : Int32) = if 0 ≤ s ∧ s ≤ 3 then -11 else -2 := by
  repeat first | rfl | rw [if_pos (by (first | omega | (simp only [Int64.le_iff_toInt_le, Int64.lt_iff_toInt_lt, Int32.le_iff_toInt_le, Int32.lt_iff_toInt_lt, ← Int32.toInt_inj, ← Int64.toInt_inj, Int32.toInt_toInt64, (show (-11 : Int32).toInt = -11 from by decide), (show (-11 : Int64).toInt = -11 from by decide), (show (-2 : Int32).toInt = -2 from by decide), (show (-2 : Int64).toInt = -2 from by decide), (show (0 : Int32).toInt = 0 from by decide), (show (0 : Int64).toInt = 0 from by decide), (show (1 : Int32).toInt = 1 from by decide), (show (1 : Int64).toInt = 1 from by decide), (show (3 : Int32).toInt = 3 from by decide), (show (3 : Int64).toInt = 3 from by decide)] at *; omega)))] | rw [if_neg (by (first | omega | (simp only [Int64.le_iff_toInt_le, Int64.lt_iff_toInt_lt, Int32.le_iff_toInt_le, Int32.lt_iff_toInt_lt, ← Int32.toInt_inj, ← Int64.toInt_inj, Int32.toInt_toInt64, (show (-11 : Int32).toInt = -11 from by decide), (show (-11 : Int64).toInt = -11 from by decide), (show (-2 : Int32).toInt = -2 from by decide), (show (-2 : Int64).toInt = -2 from by decide), (show (0 : Int32).toInt = 0 from by decide), (show (0 : Int64).toInt = 0 from by decide), (show (1 : Int32).toInt = 1 from by decide), (show (1 : Int64).toInt = 1 from by decide), (show (3 : Int32).toInt = 3 from by decide), (show (3 : Int64).toInt = 3 from by decide)] at *; omega)))]
theorem lf_x_lose_3 (s : Int32) (c_2 : ¬ (s = 0)) (c_4 : ¬ (s = 1)) (c_6 : s = 2) : ((-11) : Int32) = if 0 ≤ s ∧ s ≤ 3 then -11 else -2 := by
  repeat first | rfl | rw [if_pos (by (first | omega | (simp only [Int64.le_iff_toInt_le, Int64.lt_iff_toInt_lt, Int32.le_iff_toInt_le, Int32.lt_iff_toInt_lt, ← Int32.toInt_inj, ← Int64.toInt_inj, Int32.toInt_toInt64, (show (-11 : Int32).toInt = -11 from by decide), (show (-11 : Int64).toInt = -11 from by decide), (show (-2 : Int32).toInt = -2 from by decide), (show (-2 : Int64).toInt = -2 from by decide), (show (0 : Int32).toInt = 0 from by decide), (show (0 : Int64).toInt = 0 from by decide), (show (1 : Int32).toInt = 1 from by decide), (show (1 : Int64).toInt = 1 from by decide), (show (2 : Int32).toInt = 2 from by decide), (show (2 : Int64).toInt = 2 from by decide), (show (3 : Int32).toInt = 3 from by decide), (show (3 : Int64).toInt = 3 from by decide)] at *; omega)))] | rw [if_neg (by (first | omega | (simp only [Int64.le_iff_toInt_le, Int64.lt_iff_toInt_lt, Int32.le_iff_toInt_le, Int32.lt_iff_toInt_lt, ← Int32.toInt_inj, ← Int64.toInt_inj, Int32.toInt_toInt64, (show (-11 : Int32).toInt = -11 from by decide), (show (-11 : Int64).toInt = -11 from by decide), (show (-2 : Int32).toInt = -2 from by decide), (show (-2 : Int64).toInt = -2 from by decide), (show (0 : Int32).toInt = 0 from by decide), (show (0 : Int64).toInt = 0 from by decide), (show (1 : Int32).toInt = 1 from by decide), (show (1 : Int64).toInt = 1 from by decide), (show (2 : Int32).toInt = 2 from by decide), (show (2 : Int64).toInt = 2 from by decide), (show (3 : Int32).toInt = 3 from by decide), (show (3 : Int64).toInt = 3 from by decide)] at *; omega)))]
theorem lf_x_lose_4 (s : Int32) (c_2 : ¬ (s = 0)) (c_4 : ¬ (s = 1)) (c_6 : ¬ (s = 2)) (c_8 : s = 3) : ((-11) : Int32) = if 0 ≤ s ∧ s ≤ 3 then -11 else -2 := by
  repeat first | rfl | rw [if_pos (by (first | omega | (simp only [Int64.le_iff_toInt_le, Int64.lt_iff_toInt_lt, Int32.le_iff_toInt_le, Int32.lt_iff_toInt_lt, ← Int32.toInt_inj, ← Int64.toInt_inj, Int32.toInt_toInt64, (show (-11 : Int32).toInt = -11 from by decide), (show (-11 : Int64).toInt = -11 from by decide), (show (-2 : Int32).toInt = -2 from by decide), (show (-2 : Int64).toInt = -2 from by decide), (show (0 : Int32).toInt = 0 from by decide), (show (0 : Int64).toInt = 0 from by decide), (show (1 : Int32).toInt = 1 from by decide), (show (1 : Int64).toInt = 1 from by decide), (show (2 : Int32).toInt = 2 from by decide), (show (2 : Int64).toInt = 2 from by decide), (show (3 : Int32).toInt = 3 from by decide), (show (3 : Int64).toInt = 3 from by decide)] at *; omega)))] | rw [if_neg (by (first | omega | (simp only [Int64.le_iff_toInt_le, Int64.lt_iff_toInt_lt, Int32.le_iff_toInt_le, Int32.lt_iff_toInt_lt, ← Int32.toInt_inj, ← Int64.toInt_inj, Int32.toInt_toInt64, (show (-11 : Int32).toInt = -11 from by decide), (show (-11 : Int64).toInt = -11 from by decide), (show (-2 : Int32).toInt = -2 from by decide), (show (-2 : Int64).toInt = -2 from by decide), (show (0 : Int32).toInt = 0 from by decide), (show (0 : Int64).toInt = 0 from by decide), (show (1 : Int32).toInt = 1 from by decide), (show (1 : Int64).toInt = 1 from by decide), (show (2 : Int32).toInt = 2 from by decide), (show (2 : Int64).toInt = 2 from by decide), (show (3 : Int32).toInt = 3 from by decide), (show (3 : Int64).toInt = 3 from by decide)] at *; omega)))]
theorem lf_x_lose_5 (s : Int32) (c_2 : ¬ (s = 0)) (c_4 : ¬ (s = 1)) (c_6 : ¬ (s = 2)) (c_8 : ¬ (s = 3)) : ((-2) : Int32) = if 0 ≤ s ∧ s ≤ 3 then -11 else -2 := by
  repeat first | rfl | rw [if_pos (by (first | omega | (simp only [Int64.le_iff_toInt_le, Int64.lt_iff_toInt_lt, Int32.le_iff_toInt_le, Int32.lt_iff_toInt_lt, ← Int32.toInt_inj, ← Int64.toInt_inj, Int32.toInt_toInt64, (show (-11 : Int32).toInt = -11 from by decide), (show (-11 : Int64).toInt = -11 from by decide), (show (-2 : Int32).toInt = -2 from by decide), (show (-2 : Int64).toInt = -2 from by decide), (show (0 : Int32).toInt = 0 from by decide), (show (0 : Int64).toInt = 0 from by decide), (show (1 : Int32).toInt = 1 from by decide), (show (1 : Int64).toInt = 1 from by decide), (show (2 : Int32).toInt = 2 from by decide), (show (2 : Int64).toInt = 2 from by decide), (show (3 : Int32).toInt = 3 from by decide), (show (3 : Int64).toInt = 3 from by decide)] at *; omega)))] | rw [if_neg (by (first | omega | (simp only [Int64.le_iff_toInt_le, Int64.lt_iff_toInt_lt, Int32.le_iff_toInt_le, Int32.lt_iff_toInt_lt, ← Int32.toInt_inj, ← Int64.toInt_inj, Int32.toInt_toInt64, (show (-11 : Int32).toInt = -11 from by decide), (show (-11 : Int64).toInt = -11 from by decide), (show (-2 : Int32).toInt = -2 from by decide), (show (-2 : Int64).toInt = -2 from by decide), (show (0 : Int32).toInt = 0 from by decide), (show (0 : Int64).toInt = 0 from by decide), (show (1 : Int32).toInt = 1 from by decide), (show (1 : Int64).toInt = 1 from by decide), (show (2 : Int32).toInt = 2 from by decide), (show (2 : Int64).toInt = 2 from by decide), (show (3 : Int32).toInt = 3 from by decide), (show (3 : Int64).toInt = 3 from by decide)] at *; omega)))]
set_option maxHeartbeats 4000000 in
set_option maxRecDepth 100000 in
theorem x_lose (l : Launch) (dC : Nat → ClassId) (dI : Nat → Nat → Nat) (cI cJ cQ : ClassId) (sz : Nat) (hx : Nat) (s : Int32) (aLa : Nat) (aPa : Nat) (aGe : Nat) (aFl : Nat) (aTr : Nat) (aBe : Nat) (aLu : Nat) (aLo : Nat) (vSf : Nat) (vSm : Nat) (vCo : Nat) (vSh : Nat) (s0 : Nat) (i0 : Nat) (s1 : Nat) (i1 : Nat) (s2 : Nat) (i2 : Nat) (s3 : Nat) (i3 : Nat) : Met l yX11_lose (kW yX11_lose cX11_lose 3 (some .int)) { frames := 1, cells := 0, slots := 0, locals := 21 } (kPre dC dI cI cJ cQ sz [.ref hx, .int s] [(hx, .inr (10, [.ref aLa, .ref aPa, .ref aGe, .ref aFl, .ref aTr, .ref aBe, .ref aLu, .ref aLo, .ref vSf, .ref vSm, .ref vCo, .ref vSh, .int 0, .int 0, .int 0])), (vSh, .inl (cQ, 4, .inr (.inr (.inr (.inr (fSh s0 s1 s2 s3)))))), (s0, .inr (8, [.ref i0, .int 1, .int 0, .int 0])), (s1, .inr (8, [.ref i1, .int 1, .int 0, .int 0])), (s2, .inr (8, [.ref i2, .int 1, .int 0, .int 0])), (s3, .inr (8, [.ref i3, .int 1, .int 0, .int 0]))]) (va_Qi (fun (r : Int32) (_ : Unit) => r = if 0 ≤ s ∧ s ≤ 3 then -11 else -2) (fun _ _ => True) (va_A [(hx, .inr (10, [.ref aLa, .ref aPa, .ref aGe, .ref aFl, .ref aTr, .ref aBe, .ref aLu, .ref aLo, .ref vSf, .ref vSm, .ref vCo, .ref vSh, .int 0, .int 0, .int 0])), (vSh, .inl (cQ, 4, .inr (.inr (.inr (.inr (fSh s0 s1 s2 s3)))))), (s0, .inr (8, [.ref i0, .int 1, .int 0, .int 0])), (s1, .inr (8, [.ref i1, .int 1, .int 0, .int 0])), (s2, .inr (8, [.ref i2, .int 1, .int 0, .int 0])), (s3, .inr (8, [.ref i3, .int 1, .int 0, .int 0]))] sz)) 0 0 (va_A [(hx, .inr (10, [.ref aLa, .ref aPa, .ref aGe, .ref aFl, .ref aTr, .ref aBe, .ref aLu, .ref aLo, .ref vSf, .ref vSm, .ref vCo, .ref vSh, .int 0, .int 0, .int 0])), (vSh, .inl (cQ, 4, .inr (.inr (.inr (.inr (fSh s0 s1 s2 s3)))))), (s0, .inr (8, [.ref i0, .int 1, .int 0, .int 0])), (s1, .inr (8, [.ref i1, .int 1, .int 0, .int 0])), (s2, .inr (8, [.ref i2, .int 1, .int 0, .int 0])), (s3, .inr (8, [.ref i3, .int 1, .int 0, .int 0]))] sz) := by
  refine Met.ofW (cc := cX11_lose) (maxL := 3) (ret := (some .int)) (by decide) rfl ?_
  intro p₀ e₀ s₀ m₀ args below meth c₀ s₁ B hml hv₀
  obtain ⟨rfl, hsz, hP, hK, hD0, hN⟩ := hv₀
  have hx₀ := B.exec
  have hb := B.bytes
  have hr := B.returns
  have hts := atoms_spec (ws := (kW yX11_lose cX11_lose 3 (some .int))) B.pre
  have hts := fun w h => hts w (List.mem_cons_of_mem _ h)
  have hown : s₀.vm.findClass RX11 = some m₀.cls := findClass_of_methodNamed B.named
  have hlocks := B.notSynchronized
  subst hsz
  have hD := hD0.self (sz := s₀.heap.size)
  generalize hAe : va_A [(hx, .inr (10, [.ref aLa, .ref aPa, .ref aGe, .ref aFl, .ref aTr, .ref aBe, .ref aLu, .ref aLo, .ref vSf, .ref vSm, .ref vCo, .ref vSh, .int 0, .int 0, .int 0])), (vSh, .inl (cQ, 4, .inr (.inr (.inr (.inr (fSh s0 s1 s2 s3)))))), (s0, .inr (8, [.ref i0, .int 1, .int 0, .int 0])), (s1, .inr (8, [.ref i1, .int 1, .int 0, .int 0])), (s2, .inr (8, [.ref i2, .int 1, .int 0, .int 0])), (s3, .inr (8, [.ref i3, .int 1, .int 0, .int 0]))] s₀.heap.size = A at hD ⊢
  have hA : ∀ q : Nat, s₀.heap.size ≤ q → A q := fun q h => by rw [← hAe]; exact Or.inr h
  have hS : va_S A s₀.heap s₀.heap [] := va_S.rf
  have hP : va_P (dC, dI) vwCl [(hx, .inr (10, [.ref aLa, .ref aPa, .ref aGe, .ref aFl, .ref aTr, .ref aBe, .ref aLu, .ref aLo, .ref vSf, .ref vSm, .ref vCo, .ref vSh, .int 0, .int 0, .int 0])), (vSh, .inl (cQ, 4, .inr (.inr (.inr (.inr (fSh s0 s1 s2 s3)))))), (s0, .inr (8, [.ref i0, .int 1, .int 0, .int 0])), (s1, .inr (8, [.ref i1, .int 1, .int 0, .int 0])), (s2, .inr (8, [.ref i2, .int 1, .int 0, .int 0])), (s3, .inr (8, [.ref i3, .int 1, .int 0, .int 0]))] s₀.heap := hP
  have hl := lv_entry ([.ref hx, .int s]) (n := 3) (Nat.le_of_ble_eq_true rfl)
  rw [lg_entry_eq]
  generalize (lg_sl ([.ref hx, .int s]) ++ List.replicate (3 - (lg_sl ([.ref hx, .int s])).length) Slot.unset).toArray = ls at hl ⊢
  have hl : lv_has ls 3 [(0, .ref hx), (1, .int s)] := hl
  obtain ⟨H, hH⟩ : ∃ z : Heap, z = s₀.heap := ⟨_, rfl⟩
  rw [← hH] at hP
  have hS : va_S A s₀.heap H [] := by rw [hH]; exact hS
  refine k_heap hH ?_
  have hD : va_D A [(hx, .inr (10, [.ref aLa, .ref aPa, .ref aGe, .ref aFl, .ref aTr, .ref aBe, .ref aLu, .ref aLo, .ref vSf, .ref vSm, .ref vCo, .ref vSh, .int 0, .int 0, .int 0])), (vSh, .inl (cQ, 4, .inr (.inr (.inr (.inr (fSh s0 s1 s2 s3)))))), (s0, .inr (8, [.ref i0, .int 1, .int 0, .int 0])), (s1, .inr (8, [.ref i1, .int 1, .int 0, .int 0])), (s2, .inr (8, [.ref i2, .int 1, .int 0, .int 0])), (s3, .inr (8, [.ref i3, .int 1, .int 0, .int 0]))] := hD
  obtain ⟨locs, hlo⟩ : ∃ z : List Loc, z = [] := ⟨_, rfl⟩
  rw [← hlo] at hS ⊢
  clear hlo hH hAe hD0
  refine lv_aload_n hx₀ hb dX11_lose_0 rfl (lv_at hl 0 rfl) ?_
  refine lv_iload_n hx₀ hb dX11_lose_1 rfl (lv_at hl 1 rfl) ?_
  have hPc := hP.sub (ws' := [(hx, .inr (10, [.ref aLa, .ref aPa, .ref aGe, .ref aFl, .ref aTr, .ref aBe, .ref aLu, .ref aLo, .ref vSf, .ref vSm, .ref vCo, .ref vSh, .int 0, .int 0, .int 0])), (vSh, .inl (cQ, 4, .inr (.inr (.inr (.inr (fSh s0 s1 s2 s3))))))]) [0, 1] rfl
  have hDc := hD.sub (ws' := [(hx, .inr (10, [.ref aLa, .ref aPa, .ref aGe, .ref aFl, .ref aTr, .ref aBe, .ref aLu, .ref aLo, .ref vSf, .ref vSm, .ref vCo, .ref vSh, .int 0, .int 0, .int 0])), (vSh, .inl (cQ, 4, .inr (.inr (.inr (.inr (fSh s0 s1 s2 s3))))))]) [0, 1] (by decide) rfl
  have hFc := va_free (wc := [(hx, .inr (10, [.ref aLa, .ref aPa, .ref aGe, .ref aFl, .ref aTr, .ref aBe, .ref aLu, .ref aLo, .ref vSf, .ref vSm, .ref vCo, .ref vSh, .int 0, .int 0, .int 0])), (vSh, .inl (cQ, 4, .inr (.inr (.inr (.inr (fSh s0 s1 s2 s3))))))]) hD hS hA [0, 1] rfl
  refine va_callq (va_runV (As := [.int s]) (rest := []) ⟨hx₀, hb, hml, hown, hts⟩ (c_sheetOf l dC dI cI cJ cQ H.size hx s aLa aPa aGe aFl aTr aBe aLu aLo vSf vSm vCo vSh s0 s1 s2 s3) (cwV 1 hts (kGV wd_383 wd_380 wd_381 wd_382 wd_2) rfl rfl rfl (by decide +kernel) ⟨Nat.le_of_ble_eq_true rfl, Nat.le_of_ble_eq_true rfl⟩) (k_preV (ci := 10) (q0 := 0) hK hPc hDc hN rfl rfl) rfl rfl hl.1 rfl (lv_room (Nat.le_of_ble_eq_true rfl)) dX11_lose_2 ⟨by decide +kernel, by decide +kernel⟩) hS (fun q _ h => hFc q h) hFc (fun r_1 u₀ t₀ H1 locs ht hvm hw hB hz1 hk1 hS => ?_)
  obtain ⟨hP1, hK1, hD1⟩ := hB
  rw [ht] at hP1
  obtain ⟨hP, hD⟩ := va_join (wr := [(s0, .inr (8, [.ref i0, .int 1, .int 0, .int 0])), (s1, .inr (8, [.ref i1, .int 1, .int 0, .int 0])), (s2, .inr (8, [.ref i2, .int 1, .int 0, .int 0])), (s3, .inr (8, [.ref i3, .int 1, .int 0, .int 0]))]) (w1 := [(hx, .inr (10, [.ref aLa, .ref aPa, .ref aGe, .ref aFl, .ref aTr, .ref aBe, .ref aLu, .ref aLo, .ref vSf, .ref vSm, .ref vCo, .ref vSh, .int 0, .int 0, .int 0])), (vSh, .inl (cQ, 4, .inr (.inr (.inr (.inr (fSh s0 s1 s2 s3))))))]) hP hD [0, 1] [2, 3, 4, 5] rfl rfl (by decide) (by decide) hk1 hFc hP1 hD1
  generalize H1 = H at hP hS ⊢
  have hP : va_P (dC, dI) vwCl [(s0, .inr (8, [.ref i0, .int 1, .int 0, .int 0])), (s1, .inr (8, [.ref i1, .int 1, .int 0, .int 0])), (s2, .inr (8, [.ref i2, .int 1, .int 0, .int 0])), (s3, .inr (8, [.ref i3, .int 1, .int 0, .int 0])), (hx, .inr (10, [.ref aLa, .ref aPa, .ref aGe, .ref aFl, .ref aTr, .ref aBe, .ref aLu, .ref aLo, .ref vSf, .ref vSm, .ref vCo, .ref vSh, .int 0, .int 0, .int 0])), (vSh, .inl (cQ, 4, .inr (.inr (.inr (.inr (fSh s0 s1 s2 s3))))))] H := hP
  have hD : va_D A [(s0, .inr (8, [.ref i0, .int 1, .int 0, .int 0])), (s1, .inr (8, [.ref i1, .int 1, .int 0, .int 0])), (s2, .inr (8, [.ref i2, .int 1, .int 0, .int 0])), (s3, .inr (8, [.ref i3, .int 1, .int 0, .int 0])), (hx, .inr (10, [.ref aLa, .ref aPa, .ref aGe, .ref aFl, .ref aTr, .ref aBe, .ref aLu, .ref aLo, .ref vSf, .ref vSm, .ref vCo, .ref vSh, .int 0, .int 0, .int 0])), (vSh, .inl (cQ, 4, .inr (.inr (.inr (.inr (fSh s0 s1 s2 s3))))))] := hD
  try dsimp only at hw
  by_cases c_2 : s = 0
  · rw [if_pos c_2] at hw
    subst hw
    refine W.eq (g2 := F0 m₀ 5 ls [.ref s0]) rfl ?_
    refine lv_astore_n (lv' := [(2, .ref s0), (0, .ref hx), (1, .int s)]) hx₀ hb dX11_lose_5 rfl hl (by decide) rfl (fun ls hl => ?_)
    refine lv_aload_n hx₀ hb dX11_lose_6 rfl (lv_at hl 0 rfl) ?_
    refine lv_ifnonnull (tgt := 13) hx₀ hb dX11_lose_7 (by decide) ?_
    refine lv_aload_n hx₀ hb dX11_lose_13 rfl (lv_at hl 0 rfl) ?_
    refine va_get (D := (dC, dI)) (ci := 8) (v := .int 1) (C := RX8) (T := TX8) (N := 4) hx₀ hb hts inlX8 hown hK hP 0 rfl rfl 1 (by decide) (hts (.fieldLink RX11 133 "BittenStick$Sheet" "isLost" "Z") wd_378) (fun _ h9 => h9) rfl dX11_lose_14 ?_
    refine lv_if_eq (tgt := 26) hx₀ hb dX11_lose_17 (by decide) (fun c9 => absurd c9 (by decide +kernel)) (fun _ => ?_)
    refine lv_aload_n hx₀ hb dX11_lose_20 rfl (lv_at hl 1 rfl) ?_
    refine lv_iconst (v := 1) hx₀ hb dX11_lose_21 (by decide +kernel) ?_
    have hPc := hP.sub (ws' := [(hx, .inr (10, [.ref aLa, .ref aPa, .ref aGe, .ref aFl, .ref aTr, .ref aBe, .ref aLu, .ref aLo, .ref vSf, .ref vSm, .ref vCo, .ref vSh, .int 0, .int 0, .int 0]))]) [4] rfl
    have hDc := hD.sub (ws' := [(hx, .inr (10, [.ref aLa, .ref aPa, .ref aGe, .ref aFl, .ref aTr, .ref aBe, .ref aLu, .ref aLo, .ref vSf, .ref vSm, .ref vCo, .ref vSh, .int 0, .int 0, .int 0]))]) [4] (by decide) rfl
    have hFc := va_free (wc := [(hx, .inr (10, [.ref aLa, .ref aPa, .ref aGe, .ref aFl, .ref aTr, .ref aBe, .ref aLu, .ref aLo, .ref vSf, .ref vSm, .ref vCo, .ref vSh, .int 0, .int 0, .int 0]))]) hD hS hA [4] rfl
    refine va_calli (va_runV (As := [.int 1]) (rest := []) ⟨hx₀, hb, hml, hown, hts⟩ (c_found1 l dC dI cI cJ cQ H.size hx aLa aPa aGe aFl aTr aBe aLu aLo vSf vSm vCo vSh) (cwV 1 hts (kGV wd_387 wd_384 wd_385 wd_386 wd_2) rfl rfl rfl (by decide +kernel) ⟨Nat.le_of_ble_eq_true rfl, Nat.le_of_ble_eq_true rfl⟩) (k_preV (ci := 10) (q0 := 0) hK hPc hDc hN rfl rfl) rfl rfl hl.1 rfl (lv_room (Nat.le_of_ble_eq_true rfl)) dX11_lose_22 ⟨by decide +kernel, by decide +kernel⟩) hS (fun q _ h => hFc q h) hFc (fun r_3 u₀ t₀ H1 locs ht hvm hw hB hz1 hk1 hS => ?_)
    obtain ⟨hP1, hK1, hD1⟩ := hB
    rw [ht] at hP1
    obtain ⟨hP, hD⟩ := va_join (wr := [(s0, .inr (8, [.ref i0, .int 1, .int 0, .int 0])), (s1, .inr (8, [.ref i1, .int 1, .int 0, .int 0])), (s2, .inr (8, [.ref i2, .int 1, .int 0, .int 0])), (s3, .inr (8, [.ref i3, .int 1, .int 0, .int 0])), (vSh, .inl (cQ, 4, .inr (.inr (.inr (.inr (fSh s0 s1 s2 s3))))))]) (w1 := [(hx, .inr (10, [.ref aLa, .ref aPa, .ref aGe, .ref aFl, .ref aTr, .ref aBe, .ref aLu, .ref aLo, .ref vSf, .ref vSm, .ref vCo, .ref vSh, .int 0, .int 0, .int 1]))]) hP hD [4] [0, 1, 2, 3, 5] rfl rfl (by decide) (by decide) hk1 hFc hP1 hD1
    generalize H1 = H at hP hS ⊢
    have hP : va_P (dC, dI) vwCl [(s0, .inr (8, [.ref i0, .int 1, .int 0, .int 0])), (s1, .inr (8, [.ref i1, .int 1, .int 0, .int 0])), (s2, .inr (8, [.ref i2, .int 1, .int 0, .int 0])), (s3, .inr (8, [.ref i3, .int 1, .int 0, .int 0])), (vSh, .inl (cQ, 4, .inr (.inr (.inr (.inr (fSh s0 s1 s2 s3)))))), (hx, .inr (10, [.ref aLa, .ref aPa, .ref aGe, .ref aFl, .ref aTr, .ref aBe, .ref aLu, .ref aLo, .ref vSf, .ref vSm, .ref vCo, .ref vSh, .int 0, .int 0, .int 1]))] H := hP
    have hD : va_D A [(s0, .inr (8, [.ref i0, .int 1, .int 0, .int 0])), (s1, .inr (8, [.ref i1, .int 1, .int 0, .int 0])), (s2, .inr (8, [.ref i2, .int 1, .int 0, .int 0])), (s3, .inr (8, [.ref i3, .int 1, .int 0, .int 0])), (vSh, .inl (cQ, 4, .inr (.inr (.inr (.inr (fSh s0 s1 s2 s3)))))), (hx, .inr (10, [.ref aLa, .ref aPa, .ref aGe, .ref aFl, .ref aTr, .ref aBe, .ref aLu, .ref aLo, .ref vSf, .ref vSm, .ref vCo, .ref vSh, .int 0, .int 0, .int 1]))] := hD
    try dsimp only at hw
    refine k_topi (v := (-11)) hw ?_
    exact W.iret (v := (-11)) hx₀ hb hr (fun t₀ ht hW => ⟨⟨(-11), (), rfl, (lf_x_lose_1 s c_2), trivial⟩, hS.F ht⟩) hS.2.2 dX11_lose_25
  rw [if_neg c_2] at hw
  by_cases c_4 : s = 1
  · rw [if_pos c_4] at hw
    subst hw
    refine W.eq (g2 := F0 m₀ 5 ls [.ref s1]) rfl ?_
    refine lv_astore_n (lv' := [(2, .ref s1), (0, .ref hx), (1, .int s)]) hx₀ hb dX11_lose_5 rfl hl (by decide) rfl (fun ls hl => ?_)
    refine lv_aload_n hx₀ hb dX11_lose_6 rfl (lv_at hl 0 rfl) ?_
    refine lv_ifnonnull (tgt := 13) hx₀ hb dX11_lose_7 (by decide) ?_
    refine lv_aload_n hx₀ hb dX11_lose_13 rfl (lv_at hl 0 rfl) ?_
    refine va_get (D := (dC, dI)) (ci := 8) (v := .int 1) (C := RX8) (T := TX8) (N := 4) hx₀ hb hts inlX8 hown hK hP 1 rfl rfl 1 (by decide) (hts (.fieldLink RX11 133 "BittenStick$Sheet" "isLost" "Z") wd_378) (fun _ h9 => h9) rfl dX11_lose_14 ?_
    refine lv_if_eq (tgt := 26) hx₀ hb dX11_lose_17 (by decide) (fun c9 => absurd c9 (by decide +kernel)) (fun _ => ?_)
    refine lv_aload_n hx₀ hb dX11_lose_20 rfl (lv_at hl 1 rfl) ?_
    refine lv_iconst (v := 1) hx₀ hb dX11_lose_21 (by decide +kernel) ?_
    have hPc := hP.sub (ws' := [(hx, .inr (10, [.ref aLa, .ref aPa, .ref aGe, .ref aFl, .ref aTr, .ref aBe, .ref aLu, .ref aLo, .ref vSf, .ref vSm, .ref vCo, .ref vSh, .int 0, .int 0, .int 0]))]) [4] rfl
    have hDc := hD.sub (ws' := [(hx, .inr (10, [.ref aLa, .ref aPa, .ref aGe, .ref aFl, .ref aTr, .ref aBe, .ref aLu, .ref aLo, .ref vSf, .ref vSm, .ref vCo, .ref vSh, .int 0, .int 0, .int 0]))]) [4] (by decide) rfl
    have hFc := va_free (wc := [(hx, .inr (10, [.ref aLa, .ref aPa, .ref aGe, .ref aFl, .ref aTr, .ref aBe, .ref aLu, .ref aLo, .ref vSf, .ref vSm, .ref vCo, .ref vSh, .int 0, .int 0, .int 0]))]) hD hS hA [4] rfl
    refine va_calli (va_runV (As := [.int 1]) (rest := []) ⟨hx₀, hb, hml, hown, hts⟩ (c_found1 l dC dI cI cJ cQ H.size hx aLa aPa aGe aFl aTr aBe aLu aLo vSf vSm vCo vSh) (cwV 1 hts (kGV wd_387 wd_384 wd_385 wd_386 wd_2) rfl rfl rfl (by decide +kernel) ⟨Nat.le_of_ble_eq_true rfl, Nat.le_of_ble_eq_true rfl⟩) (k_preV (ci := 10) (q0 := 0) hK hPc hDc hN rfl rfl) rfl rfl hl.1 rfl (lv_room (Nat.le_of_ble_eq_true rfl)) dX11_lose_22 ⟨by decide +kernel, by decide +kernel⟩) hS (fun q _ h => hFc q h) hFc (fun r_5 u₀ t₀ H1 locs ht hvm hw hB hz1 hk1 hS => ?_)
    obtain ⟨hP1, hK1, hD1⟩ := hB
    rw [ht] at hP1
    obtain ⟨hP, hD⟩ := va_join (wr := [(s0, .inr (8, [.ref i0, .int 1, .int 0, .int 0])), (s1, .inr (8, [.ref i1, .int 1, .int 0, .int 0])), (s2, .inr (8, [.ref i2, .int 1, .int 0, .int 0])), (s3, .inr (8, [.ref i3, .int 1, .int 0, .int 0])), (vSh, .inl (cQ, 4, .inr (.inr (.inr (.inr (fSh s0 s1 s2 s3))))))]) (w1 := [(hx, .inr (10, [.ref aLa, .ref aPa, .ref aGe, .ref aFl, .ref aTr, .ref aBe, .ref aLu, .ref aLo, .ref vSf, .ref vSm, .ref vCo, .ref vSh, .int 0, .int 0, .int 1]))]) hP hD [4] [0, 1, 2, 3, 5] rfl rfl (by decide) (by decide) hk1 hFc hP1 hD1
    generalize H1 = H at hP hS ⊢
    have hP : va_P (dC, dI) vwCl [(s0, .inr (8, [.ref i0, .int 1, .int 0, .int 0])), (s1, .inr (8, [.ref i1, .int 1, .int 0, .int 0])), (s2, .inr (8, [.ref i2, .int 1, .int 0, .int 0])), (s3, .inr (8, [.ref i3, .int 1, .int 0, .int 0])), (vSh, .inl (cQ, 4, .inr (.inr (.inr (.inr (fSh s0 s1 s2 s3)))))), (hx, .inr (10, [.ref aLa, .ref aPa, .ref aGe, .ref aFl, .ref aTr, .ref aBe, .ref aLu, .ref aLo, .ref vSf, .ref vSm, .ref vCo, .ref vSh, .int 0, .int 0, .int 1]))] H := hP
    have hD : va_D A [(s0, .inr (8, [.ref i0, .int 1, .int 0, .int 0])), (s1, .inr (8, [.ref i1, .int 1, .int 0, .int 0])), (s2, .inr (8, [.ref i2, .int 1, .int 0, .int 0])), (s3, .inr (8, [.ref i3, .int 1, .int 0, .int 0])), (vSh, .inl (cQ, 4, .inr (.inr (.inr (.inr (fSh s0 s1 s2 s3)))))), (hx, .inr (10, [.ref aLa, .ref aPa, .ref aGe, .ref aFl, .ref aTr, .ref aBe, .ref aLu, .ref aLo, .ref vSf, .ref vSm, .ref vCo, .ref vSh, .int 0, .int 0, .int 1]))] := hD
    try dsimp only at hw
    refine k_topi (v := (-11)) hw ?_
    exact W.iret (v := (-11)) hx₀ hb hr (fun t₀ ht hW => ⟨⟨(-11), (), rfl, (lf_x_lose_2 s c_2 c_4), trivial⟩, hS.F ht⟩) hS.2.2 dX11_lose_25
  rw [if_neg c_4] at hw
  by_cases c_6 : s = 2
  · rw [if_pos c_6] at hw
    subst hw
    refine W.eq (g2 := F0 m₀ 5 ls [.ref s2]) rfl ?_
    refine lv_astore_n (lv' := [(2, .ref s2), (0, .ref hx), (1, .int s)]) hx₀ hb dX11_lose_5 rfl hl (by decide) rfl (fun ls hl => ?_)
    refine lv_aload_n hx₀ hb dX11_lose_6 rfl (lv_at hl 0 rfl) ?_
    refine lv_ifnonnull (tgt := 13) hx₀ hb dX11_lose_7 (by decide) ?_
    refine lv_aload_n hx₀ hb dX11_lose_13 rfl (lv_at hl 0 rfl) ?_
    refine va_get (D := (dC, dI)) (ci := 8) (v := .int 1) (C := RX8) (T := TX8) (N := 4) hx₀ hb hts inlX8 hown hK hP 2 rfl rfl 1 (by decide) (hts (.fieldLink RX11 133 "BittenStick$Sheet" "isLost" "Z") wd_378) (fun _ h9 => h9) rfl dX11_lose_14 ?_
    refine lv_if_eq (tgt := 26) hx₀ hb dX11_lose_17 (by decide) (fun c9 => absurd c9 (by decide +kernel)) (fun _ => ?_)
    refine lv_aload_n hx₀ hb dX11_lose_20 rfl (lv_at hl 1 rfl) ?_
    refine lv_iconst (v := 1) hx₀ hb dX11_lose_21 (by decide +kernel) ?_
    have hPc := hP.sub (ws' := [(hx, .inr (10, [.ref aLa, .ref aPa, .ref aGe, .ref aFl, .ref aTr, .ref aBe, .ref aLu, .ref aLo, .ref vSf, .ref vSm, .ref vCo, .ref vSh, .int 0, .int 0, .int 0]))]) [4] rfl
    have hDc := hD.sub (ws' := [(hx, .inr (10, [.ref aLa, .ref aPa, .ref aGe, .ref aFl, .ref aTr, .ref aBe, .ref aLu, .ref aLo, .ref vSf, .ref vSm, .ref vCo, .ref vSh, .int 0, .int 0, .int 0]))]) [4] (by decide) rfl
    have hFc := va_free (wc := [(hx, .inr (10, [.ref aLa, .ref aPa, .ref aGe, .ref aFl, .ref aTr, .ref aBe, .ref aLu, .ref aLo, .ref vSf, .ref vSm, .ref vCo, .ref vSh, .int 0, .int 0, .int 0]))]) hD hS hA [4] rfl
    refine va_calli (va_runV (As := [.int 1]) (rest := []) ⟨hx₀, hb, hml, hown, hts⟩ (c_found1 l dC dI cI cJ cQ H.size hx aLa aPa aGe aFl aTr aBe aLu aLo vSf vSm vCo vSh) (cwV 1 hts (kGV wd_387 wd_384 wd_385 wd_386 wd_2) rfl rfl rfl (by decide +kernel) ⟨Nat.le_of_ble_eq_true rfl, Nat.le_of_ble_eq_true rfl⟩) (k_preV (ci := 10) (q0 := 0) hK hPc hDc hN rfl rfl) rfl rfl hl.1 rfl (lv_room (Nat.le_of_ble_eq_true rfl)) dX11_lose_22 ⟨by decide +kernel, by decide +kernel⟩) hS (fun q _ h => hFc q h) hFc (fun r_7 u₀ t₀ H1 locs ht hvm hw hB hz1 hk1 hS => ?_)
    obtain ⟨hP1, hK1, hD1⟩ := hB
    rw [ht] at hP1
    obtain ⟨hP, hD⟩ := va_join (wr := [(s0, .inr (8, [.ref i0, .int 1, .int 0, .int 0])), (s1, .inr (8, [.ref i1, .int 1, .int 0, .int 0])), (s2, .inr (8, [.ref i2, .int 1, .int 0, .int 0])), (s3, .inr (8, [.ref i3, .int 1, .int 0, .int 0])), (vSh, .inl (cQ, 4, .inr (.inr (.inr (.inr (fSh s0 s1 s2 s3))))))]) (w1 := [(hx, .inr (10, [.ref aLa, .ref aPa, .ref aGe, .ref aFl, .ref aTr, .ref aBe, .ref aLu, .ref aLo, .ref vSf, .ref vSm, .ref vCo, .ref vSh, .int 0, .int 0, .int 1]))]) hP hD [4] [0, 1, 2, 3, 5] rfl rfl (by decide) (by decide) hk1 hFc hP1 hD1
    generalize H1 = H at hP hS ⊢
    have hP : va_P (dC, dI) vwCl [(s0, .inr (8, [.ref i0, .int 1, .int 0, .int 0])), (s1, .inr (8, [.ref i1, .int 1, .int 0, .int 0])), (s2, .inr (8, [.ref i2, .int 1, .int 0, .int 0])), (s3, .inr (8, [.ref i3, .int 1, .int 0, .int 0])), (vSh, .inl (cQ, 4, .inr (.inr (.inr (.inr (fSh s0 s1 s2 s3)))))), (hx, .inr (10, [.ref aLa, .ref aPa, .ref aGe, .ref aFl, .ref aTr, .ref aBe, .ref aLu, .ref aLo, .ref vSf, .ref vSm, .ref vCo, .ref vSh, .int 0, .int 0, .int 1]))] H := hP
    have hD : va_D A [(s0, .inr (8, [.ref i0, .int 1, .int 0, .int 0])), (s1, .inr (8, [.ref i1, .int 1, .int 0, .int 0])), (s2, .inr (8, [.ref i2, .int 1, .int 0, .int 0])), (s3, .inr (8, [.ref i3, .int 1, .int 0, .int 0])), (vSh, .inl (cQ, 4, .inr (.inr (.inr (.inr (fSh s0 s1 s2 s3)))))), (hx, .inr (10, [.ref aLa, .ref aPa, .ref aGe, .ref aFl, .ref aTr, .ref aBe, .ref aLu, .ref aLo, .ref vSf, .ref vSm, .ref vCo, .ref vSh, .int 0, .int 0, .int 1]))] := hD
    try dsimp only at hw
    refine k_topi (v := (-11)) hw ?_
    exact W.iret (v := (-11)) hx₀ hb hr (fun t₀ ht hW => ⟨⟨(-11), (), rfl, (lf_x_lose_3 s c_2 c_4 c_6), trivial⟩, hS.F ht⟩) hS.2.2 dX11_lose_25
  rw [if_neg c_6] at hw
  by_cases c_8 : s = 3
  · rw [if_pos c_8] at hw
    subst hw
    refine W.eq (g2 := F0 m₀ 5 ls [.ref s3]) rfl ?_
    refine lv_astore_n (lv' := [(2, .ref s3), (0, .ref hx), (1, .int s)]) hx₀ hb dX11_lose_5 rfl hl (by decide) rfl (fun ls hl => ?_)
    refine lv_aload_n hx₀ hb dX11_lose_6 rfl (lv_at hl 0 rfl) ?_
    refine lv_ifnonnull (tgt := 13) hx₀ hb dX11_lose_7 (by decide) ?_
    refine lv_aload_n hx₀ hb dX11_lose_13 rfl (lv_at hl 0 rfl) ?_
    refine va_get (D := (dC, dI)) (ci := 8) (v := .int 1) (C := RX8) (T := TX8) (N := 4) hx₀ hb hts inlX8 hown hK hP 3 rfl rfl 1 (by decide) (hts (.fieldLink RX11 133 "BittenStick$Sheet" "isLost" "Z") wd_378) (fun _ h9 => h9) rfl dX11_lose_14 ?_
    refine lv_if_eq (tgt := 26) hx₀ hb dX11_lose_17 (by decide) (fun c9 => absurd c9 (by decide +kernel)) (fun _ => ?_)
    refine lv_aload_n hx₀ hb dX11_lose_20 rfl (lv_at hl 1 rfl) ?_
    refine lv_iconst (v := 1) hx₀ hb dX11_lose_21 (by decide +kernel) ?_
    have hPc := hP.sub (ws' := [(hx, .inr (10, [.ref aLa, .ref aPa, .ref aGe, .ref aFl, .ref aTr, .ref aBe, .ref aLu, .ref aLo, .ref vSf, .ref vSm, .ref vCo, .ref vSh, .int 0, .int 0, .int 0]))]) [4] rfl
    have hDc := hD.sub (ws' := [(hx, .inr (10, [.ref aLa, .ref aPa, .ref aGe, .ref aFl, .ref aTr, .ref aBe, .ref aLu, .ref aLo, .ref vSf, .ref vSm, .ref vCo, .ref vSh, .int 0, .int 0, .int 0]))]) [4] (by decide) rfl
    have hFc := va_free (wc := [(hx, .inr (10, [.ref aLa, .ref aPa, .ref aGe, .ref aFl, .ref aTr, .ref aBe, .ref aLu, .ref aLo, .ref vSf, .ref vSm, .ref vCo, .ref vSh, .int 0, .int 0, .int 0]))]) hD hS hA [4] rfl
    refine va_calli (va_runV (As := [.int 1]) (rest := []) ⟨hx₀, hb, hml, hown, hts⟩ (c_found1 l dC dI cI cJ cQ H.size hx aLa aPa aGe aFl aTr aBe aLu aLo vSf vSm vCo vSh) (cwV 1 hts (kGV wd_387 wd_384 wd_385 wd_386 wd_2) rfl rfl rfl (by decide +kernel) ⟨Nat.le_of_ble_eq_true rfl, Nat.le_of_ble_eq_true rfl⟩) (k_preV (ci := 10) (q0 := 0) hK hPc hDc hN rfl rfl) rfl rfl hl.1 rfl (lv_room (Nat.le_of_ble_eq_true rfl)) dX11_lose_22 ⟨by decide +kernel, by decide +kernel⟩) hS (fun q _ h => hFc q h) hFc (fun r_9 u₀ t₀ H1 locs ht hvm hw hB hz1 hk1 hS => ?_)
    obtain ⟨hP1, hK1, hD1⟩ := hB
    rw [ht] at hP1
    obtain ⟨hP, hD⟩ := va_join (wr := [(s0, .inr (8, [.ref i0, .int 1, .int 0, .int 0])), (s1, .inr (8, [.ref i1, .int 1, .int 0, .int 0])), (s2, .inr (8, [.ref i2, .int 1, .int 0, .int 0])), (s3, .inr (8, [.ref i3, .int 1, .int 0, .int 0])), (vSh, .inl (cQ, 4, .inr (.inr (.inr (.inr (fSh s0 s1 s2 s3))))))]) (w1 := [(hx, .inr (10, [.ref aLa, .ref aPa, .ref aGe, .ref aFl, .ref aTr, .ref aBe, .ref aLu, .ref aLo, .ref vSf, .ref vSm, .ref vCo, .ref vSh, .int 0, .int 0, .int 1]))]) hP hD [4] [0, 1, 2, 3, 5] rfl rfl (by decide) (by decide) hk1 hFc hP1 hD1
    generalize H1 = H at hP hS ⊢
    have hP : va_P (dC, dI) vwCl [(s0, .inr (8, [.ref i0, .int 1, .int 0, .int 0])), (s1, .inr (8, [.ref i1, .int 1, .int 0, .int 0])), (s2, .inr (8, [.ref i2, .int 1, .int 0, .int 0])), (s3, .inr (8, [.ref i3, .int 1, .int 0, .int 0])), (vSh, .inl (cQ, 4, .inr (.inr (.inr (.inr (fSh s0 s1 s2 s3)))))), (hx, .inr (10, [.ref aLa, .ref aPa, .ref aGe, .ref aFl, .ref aTr, .ref aBe, .ref aLu, .ref aLo, .ref vSf, .ref vSm, .ref vCo, .ref vSh, .int 0, .int 0, .int 1]))] H := hP
    have hD : va_D A [(s0, .inr (8, [.ref i0, .int 1, .int 0, .int 0])), (s1, .inr (8, [.ref i1, .int 1, .int 0, .int 0])), (s2, .inr (8, [.ref i2, .int 1, .int 0, .int 0])), (s3, .inr (8, [.ref i3, .int 1, .int 0, .int 0])), (vSh, .inl (cQ, 4, .inr (.inr (.inr (.inr (fSh s0 s1 s2 s3)))))), (hx, .inr (10, [.ref aLa, .ref aPa, .ref aGe, .ref aFl, .ref aTr, .ref aBe, .ref aLu, .ref aLo, .ref vSf, .ref vSm, .ref vCo, .ref vSh, .int 0, .int 0, .int 1]))] := hD
    try dsimp only at hw
    refine k_topi (v := (-11)) hw ?_
    exact W.iret (v := (-11)) hx₀ hb hr (fun t₀ ht hW => ⟨⟨(-11), (), rfl, (lf_x_lose_4 s c_2 c_4 c_6 c_8), trivial⟩, hS.F ht⟩) hS.2.2 dX11_lose_25
  rw [if_neg c_8] at hw
  subst hw
  refine W.eq (g2 := F0 m₀ 5 ls [.null]) rfl ?_
  refine lv_astore_nN (lv' := [(2, .null), (0, .ref hx), (1, .int s)]) hx₀ hb dX11_lose_5 rfl hl (by decide) rfl (fun ls hl => ?_)
  refine lv_aload_nN hx₀ hb dX11_lose_6 rfl (lv_at hl 0 rfl) ?_
  refine lv_ifnonnullN hx₀ hb dX11_lose_7 ?_
  refine lv_bipush (v := (-2)) hx₀ hb dX11_lose_10 (by decide +kernel) ?_
  exact W.iret (v := (-2)) hx₀ hb hr (fun t₀ ht hW => ⟨⟨(-2), (), rfl, (lf_x_lose_5 s c_2 c_4 c_6 c_8), trivial⟩, hS.F ht⟩) hS.2.2 dX11_lose_12
set_option maxHeartbeats 4000000 in
set_option maxRecDepth 100000 in
theorem c_refuse (l : Launch) (dC : Nat → ClassId) (dI : Nat → Nat → Nat) (cI cJ cQ : ClassId) (sz : Nat) (hx : Nat) (q : Nat) (m : Int32) (i : Int32) (aLa : Nat) (aPa : Nat) (aGe : Nat) (aFl : Nat) (aTr : Nat) (aBe : Nat) (aLu : Nat) (aLo : Nat) (vSf : Nat) (vSm : Nat) (vCo : Nat) (vSh : Nat) (qi : Nat) : Met l yX11_itemRefusal (kW yX11_itemRefusal cX11_itemRefusal 4 (some .int)) { frames := 1, cells := 0, slots := 0, locals := 21 } (kPre dC dI cI cJ cQ sz [.ref hx, .ref q, .int m, .int i] [(hx, .inr (10, [.ref aLa, .ref aPa, .ref aGe, .ref aFl, .ref aTr, .ref aBe, .ref aLu, .ref aLo, .ref vSf, .ref vSm, .ref vCo, .ref vSh, .int 0, .int 0, .int 0])), (q, .inr (8, [.ref qi, .int 1, .int 0, .int 0]))]) (va_Qi (fun (r : Int32) (_ : Unit) => r = (-11)) (fun _ _ => True) (va_A [(hx, .inr (10, [.ref aLa, .ref aPa, .ref aGe, .ref aFl, .ref aTr, .ref aBe, .ref aLu, .ref aLo, .ref vSf, .ref vSm, .ref vCo, .ref vSh, .int 0, .int 0, .int 0])), (q, .inr (8, [.ref qi, .int 1, .int 0, .int 0]))] sz)) 0 0 (va_A [(hx, .inr (10, [.ref aLa, .ref aPa, .ref aGe, .ref aFl, .ref aTr, .ref aBe, .ref aLu, .ref aLo, .ref vSf, .ref vSm, .ref vCo, .ref vSh, .int 0, .int 0, .int 0])), (q, .inr (8, [.ref qi, .int 1, .int 0, .int 0]))] sz) := by
  refine Met.ofW (cc := cX11_itemRefusal) (maxL := 4) (ret := (some .int)) (by decide) rfl ?_
  intro p₀ e₀ s₀ m₀ args below meth c₀ s₁ B hml hv₀
  obtain ⟨rfl, hsz, hP, hK, hD0, hN⟩ := hv₀
  have hx₀ := B.exec
  have hb := B.bytes
  have hr := B.returns
  have hts := atoms_spec (ws := (kW yX11_itemRefusal cX11_itemRefusal 4 (some .int))) B.pre
  have hts := fun w h => hts w (List.mem_cons_of_mem _ h)
  have hown : s₀.vm.findClass RX11 = some m₀.cls := findClass_of_methodNamed B.named
  have hlocks := B.notSynchronized
  subst hsz
  have hD := hD0.self (sz := s₀.heap.size)
  generalize hAe : va_A [(hx, .inr (10, [.ref aLa, .ref aPa, .ref aGe, .ref aFl, .ref aTr, .ref aBe, .ref aLu, .ref aLo, .ref vSf, .ref vSm, .ref vCo, .ref vSh, .int 0, .int 0, .int 0])), (q, .inr (8, [.ref qi, .int 1, .int 0, .int 0]))] s₀.heap.size = A at hD ⊢
  have hA : ∀ q : Nat, s₀.heap.size ≤ q → A q := fun q h => by rw [← hAe]; exact Or.inr h
  have hS : va_S A s₀.heap s₀.heap [] := va_S.rf
  have hP : va_P (dC, dI) vwCl [(hx, .inr (10, [.ref aLa, .ref aPa, .ref aGe, .ref aFl, .ref aTr, .ref aBe, .ref aLu, .ref aLo, .ref vSf, .ref vSm, .ref vCo, .ref vSh, .int 0, .int 0, .int 0])), (q, .inr (8, [.ref qi, .int 1, .int 0, .int 0]))] s₀.heap := hP
  have hl := lv_entry ([.ref hx, .ref q, .int m, .int i]) (n := 4) (Nat.le_of_ble_eq_true rfl)
  rw [lg_entry_eq]
  generalize (lg_sl ([.ref hx, .ref q, .int m, .int i]) ++ List.replicate (4 - (lg_sl ([.ref hx, .ref q, .int m, .int i])).length) Slot.unset).toArray = ls at hl ⊢
  have hl : lv_has ls 4 [(0, .ref hx), (1, .ref q), (2, .int m), (3, .int i)] := hl
  obtain ⟨H, hH⟩ : ∃ z : Heap, z = s₀.heap := ⟨_, rfl⟩
  rw [← hH] at hP
  have hS : va_S A s₀.heap H [] := by rw [hH]; exact hS
  refine k_heap hH ?_
  have hD : va_D A [(hx, .inr (10, [.ref aLa, .ref aPa, .ref aGe, .ref aFl, .ref aTr, .ref aBe, .ref aLu, .ref aLo, .ref vSf, .ref vSm, .ref vCo, .ref vSh, .int 0, .int 0, .int 0])), (q, .inr (8, [.ref qi, .int 1, .int 0, .int 0]))] := hD
  obtain ⟨locs, hlo⟩ : ∃ z : List Loc, z = [] := ⟨_, rfl⟩
  rw [← hlo] at hS ⊢
  clear hlo hH hAe hD0
  refine lv_aload_n hx₀ hb dX11_itemRefusal_0 rfl (lv_at hl 1 rfl) ?_
  refine va_get (D := (dC, dI)) (ci := 8) (v := .int 1) (C := RX8) (T := TX8) (N := 4) hx₀ hb hts inlX8 hown hK hP 1 rfl rfl 1 (by decide) (hts (.fieldLink RX11 133 "BittenStick$Sheet" "isLost" "Z") wd_378) (fun _ h9 => h9) rfl dX11_itemRefusal_1 ?_
  refine lv_if_eq (tgt := 13) hx₀ hb dX11_itemRefusal_4 (by decide) (fun c9 => absurd c9 (by decide +kernel)) (fun _ => ?_)
  refine lv_aload_n hx₀ hb dX11_itemRefusal_7 rfl (lv_at hl 0 rfl) ?_
  refine lv_iconst (v := 1) hx₀ hb dX11_itemRefusal_8 (by decide +kernel) ?_
  have hPc := hP.sub (ws' := [(hx, .inr (10, [.ref aLa, .ref aPa, .ref aGe, .ref aFl, .ref aTr, .ref aBe, .ref aLu, .ref aLo, .ref vSf, .ref vSm, .ref vCo, .ref vSh, .int 0, .int 0, .int 0]))]) [0] rfl
  have hDc := hD.sub (ws' := [(hx, .inr (10, [.ref aLa, .ref aPa, .ref aGe, .ref aFl, .ref aTr, .ref aBe, .ref aLu, .ref aLo, .ref vSf, .ref vSm, .ref vCo, .ref vSh, .int 0, .int 0, .int 0]))]) [0] (by decide) rfl
  have hFc := va_free (wc := [(hx, .inr (10, [.ref aLa, .ref aPa, .ref aGe, .ref aFl, .ref aTr, .ref aBe, .ref aLu, .ref aLo, .ref vSf, .ref vSm, .ref vCo, .ref vSh, .int 0, .int 0, .int 0]))]) hD hS hA [0] rfl
  refine va_calli (va_runV (As := [.int 1]) (rest := []) ⟨hx₀, hb, hml, hown, hts⟩ (c_found1 l dC dI cI cJ cQ H.size hx aLa aPa aGe aFl aTr aBe aLu aLo vSf vSm vCo vSh) (cwV 1 hts (kGV wd_387 wd_384 wd_385 wd_386 wd_2) rfl rfl rfl (by decide +kernel) ⟨Nat.le_of_ble_eq_true rfl, Nat.le_of_ble_eq_true rfl⟩) (k_preV (ci := 10) (q0 := 0) hK hPc hDc hN rfl rfl) rfl rfl hl.1 rfl (lv_room (Nat.le_of_ble_eq_true rfl)) dX11_itemRefusal_9 ⟨by decide +kernel, by decide +kernel⟩) hS (fun q _ h => hFc q h) hFc (fun r_1 u₀ t₀ H1 locs ht hvm hw hB hz1 hk1 hS => ?_)
  obtain ⟨hP1, hK1, hD1⟩ := hB
  rw [ht] at hP1
  obtain ⟨hP, hD⟩ := va_join (wr := [(q, .inr (8, [.ref qi, .int 1, .int 0, .int 0]))]) (w1 := [(hx, .inr (10, [.ref aLa, .ref aPa, .ref aGe, .ref aFl, .ref aTr, .ref aBe, .ref aLu, .ref aLo, .ref vSf, .ref vSm, .ref vCo, .ref vSh, .int 0, .int 0, .int 1]))]) hP hD [0] [1] rfl rfl (by decide) (by decide) hk1 hFc hP1 hD1
  generalize H1 = H at hP hS ⊢
  have hP : va_P (dC, dI) vwCl [(q, .inr (8, [.ref qi, .int 1, .int 0, .int 0])), (hx, .inr (10, [.ref aLa, .ref aPa, .ref aGe, .ref aFl, .ref aTr, .ref aBe, .ref aLu, .ref aLo, .ref vSf, .ref vSm, .ref vCo, .ref vSh, .int 0, .int 0, .int 1]))] H := hP
  have hD : va_D A [(q, .inr (8, [.ref qi, .int 1, .int 0, .int 0])), (hx, .inr (10, [.ref aLa, .ref aPa, .ref aGe, .ref aFl, .ref aTr, .ref aBe, .ref aLu, .ref aLo, .ref vSf, .ref vSm, .ref vCo, .ref vSh, .int 0, .int 0, .int 1]))] := hD
  try dsimp only at hw
  refine k_topi (v := (-11)) hw ?_
  exact W.iret (v := (-11)) hx₀ hb hr (fun t₀ ht hW => ⟨⟨(-11), (), rfl, rfl, trivial⟩, hS.F ht⟩) hS.2.2 dX11_itemRefusal_12
theorem lf_x_lay_1 (s : Int32) (m : Int32) (c_2 : s = 0) (c_4 : 0 ≤ m ∧ m ≤ 2) : ((-11) : Int32) = if 0 ≤ s ∧ s ≤ 3 ∧ 0 ≤ m ∧ m ≤ 2 then -11 else -2 := by
  repeat first | rfl | rw [if_pos (by (first | omega | (simp only [Int64.le_iff_toInt_le, Int64.lt_iff_toInt_lt, Int32.le_iff_toInt_le, Int32.lt_iff_toInt_lt, ← Int32.toInt_inj, ← Int64.toInt_inj, Int32.toInt_toInt64, (show (-11 : Int32).toInt = -11 from by decide), (show (-11 : Int64).toInt = -11 from by decide), (show (-2 : Int32).toInt = -2 from by decide), (show (-2 : Int64).toInt = -2 from by decide), (show (0 : Int32).toInt = 0 from by decide), (show (0 : Int64).toInt = 0 from by decide), (show (2 : Int32).toInt = 2 from by decide), (show (2 : Int64).toInt = 2 from by decide), (show (3 : Int32).toInt = 3 from by decide), (show (3 : Int64).toInt = 3 from by decide)] at *; omega)))] | rw [if_neg (by (first | omega | (simp only [Int64.le_iff_toInt_le, Int64.lt_iff_toInt_lt, Int32.le_iff_toInt_le, Int32.lt_iff_toInt_lt, ← Int32.toInt_inj, ← Int64.toInt_inj, Int32.toInt_toInt64, (show (-11 : Int32).toInt = -11 from by decide), (show (-11 : Int64).toInt = -11 from by decide), (show (-2 : Int32).toInt = -2 from by decide), (show (-2 : Int64).toInt = -2 from by decide), (show (0 : Int32).toInt = 0 from by decide), (show (0 : Int64).toInt = 0 from by decide), (show (2 : Int32).toInt = 2 from by decide), (show (2 : Int64).toInt = 2 from by decide), (show (3 : Int32).toInt = 3 from by decide), (show (3 : Int64).toInt = 3 from by decide)] at *; omega)))]
theorem lf_x_lay_2 (s : Int32) (m : Int32) (c_2 : s = 0) (c_4 : ¬ (0 ≤ m ∧ m ≤ 2)) : ((-2) : Int32) = if 0 ≤ s ∧ s ≤ 3 ∧ 0 ≤ m ∧ m ≤ 2 then -11 else -2 := by
  repeat first | rfl | rw [if_pos (by (first | omega | (simp only [Int64.le_iff_toInt_le, Int64.lt_iff_toInt_lt, Int32.le_iff_toInt_le, Int32.lt_iff_toInt_lt, ← Int32.toInt_inj, ← Int64.toInt_inj, Int32.toInt_toInt64, (show (-11 : Int32).toInt = -11 from by decide), (show (-11 : Int64).toInt = -11 from by decide), (show (-2 : Int32).toInt = -2 from by decide), (show (-2 : Int64).toInt = -2 from by decide), (show (0 : Int32).toInt = 0 from by decide), (show (0 : Int64).toInt = 0 from by decide), (show (2 : Int32).toInt = 2 from by decide), (show (2 : Int64).toInt = 2 from by decide), (show (3 : Int32).toInt = 3 from by decide), (show (3 : Int64).toInt = 3 from by decide)] at *; omega)))] | rw [if_neg (by (first | omega | (simp only [Int64.le_iff_toInt_le, Int64.lt_iff_toInt_lt, Int32.le_iff_toInt_le, Int32.lt_iff_toInt_lt, ← Int32.toInt_inj, ← Int64.toInt_inj, Int32.toInt_toInt64, (show (-11 : Int32).toInt = -11 from by decide), (show (-11 : Int64).toInt = -11 from by decide), (show (-2 : Int32).toInt = -2 from by decide), (show (-2 : Int64).toInt = -2 from by decide), (show (0 : Int32).toInt = 0 from by decide), (show (0 : Int64).toInt = 0 from by decide), (show (2 : Int32).toInt = 2 from by decide), (show (2 : Int64).toInt = 2 from by decide), (show (3 : Int32).toInt = 3 from by decide), (show (3 : Int64).toInt = 3 from by decide)] at *; omega)))]
theorem lf_x_lay_3 (s : Int32) (m : Int32) (c_2 : ¬ (s = 0)) (c_6 : s = 1) (c_8 : 0 ≤ m ∧ m ≤ 2) : ((-11) : Int32) = if 0 ≤ s ∧ s ≤ 3 ∧ 0 ≤ m ∧ m ≤ 2 then -11 else -2 := by
  repeat first | rfl | rw [if_pos (by (first | omega | (simp only [Int64.le_iff_toInt_le, Int64.lt_iff_toInt_lt, Int32.le_iff_toInt_le, Int32.lt_iff_toInt_lt, ← Int32.toInt_inj, ← Int64.toInt_inj, Int32.toInt_toInt64, (show (-11 : Int32).toInt = -11 from by decide), (show (-11 : Int64).toInt = -11 from by decide), (show (-2 : Int32).toInt = -2 from by decide), (show (-2 : Int64).toInt = -2 from by decide), (show (0 : Int32).toInt = 0 from by decide), (show (0 : Int64).toInt = 0 from by decide), (show (1 : Int32).toInt = 1 from by decide), (show (1 : Int64).toInt = 1 from by decide), (show (2 : Int32).toInt = 2 from by decide), (show (2 : Int64).toInt = 2 from by decide), (show (3 : Int32).toInt = 3 from by decide), (show (3 : Int64).toInt = 3 from by decide)] at *; omega)))] | rw [if_neg (by (first | omega | (simp only [Int64.le_iff_toInt_le, Int64.lt_iff_toInt_lt, Int32.le_iff_toInt_le, Int32.lt_iff_toInt_lt, ← Int32.toInt_inj, ← Int64.toInt_inj, Int32.toInt_toInt64, (show (-11 : Int32).toInt = -11 from by decide), (show (-11 : Int64).toInt = -11 from by decide), (show (-2 : Int32).toInt = -2 from by decide), (show (-2 : Int64).toInt = -2 from by decide), (show (0 : Int32).toInt = 0 from by decide), (show (0 : Int64).toInt = 0 from by decide), (show (1 : Int32).toInt = 1 from by decide), (show (1 : Int64).toInt = 1 from by decide), (show (2 : Int32).toInt = 2 from by decide), (show (2 : Int64).toInt = 2 from by decide), (show (3 : Int32).toInt = 3 from by decide), (show (3 : Int64).toInt = 3 from by decide)] at *; omega)))]
theorem lf_x_lay_4 (s : Int32) (m : Int32) (c_2 : ¬ (s = 0)) (c_6 : s = 1) (c_8 : ¬ (0 ≤ m ∧ m ≤ 2)) : ((-2) : Int32) = if 0 ≤ s ∧ s ≤ 3 ∧ 0 ≤ m ∧ m ≤ 2 then -11 else -2 := by
  repeat first | rfl | rw [if_pos (by (first | omega | (simp only [Int64.le_iff_toInt_le, Int64.lt_iff_toInt_lt, Int32.le_iff_toInt_le, Int32.lt_iff_toInt_lt, ← Int32.toInt_inj, ← Int64.toInt_inj, Int32.toInt_toInt64, (show (-11 : Int32).toInt = -11 from by decide), (show (-11 : Int64).toInt = -11 from by decide), (show (-2 : Int32).toInt = -2 from by decide), (show (-2 : Int64).toInt = -2 from by decide), (show (0 : Int32).toInt = 0 from by decide), (show (0 : Int64).toInt = 0 from by decide), (show (1 : Int32).toInt = 1 from by decide), (show (1 : Int64).toInt = 1 from by decide), (show (2 : Int32).toInt = 2 from by decide), (show (2 : Int64).toInt = 2 from by decide), (show (3 : Int32).toInt = 3 from by decide), (show (3 : Int64).toInt = 3 from by decide)] at *; omega)))] | rw [if_neg (by (first | omega | (simp only [Int64.le_iff_toInt_le, Int64.lt_iff_toInt_lt, Int32.le_iff_toInt_le, Int32.lt_iff_toInt_lt, ← Int32.toInt_inj, ← Int64.toInt_inj, Int32.toInt_toInt64, (show (-11 : Int32).toInt = -11 from by decide), (show (-11 : Int64).toInt = -11 from by decide), (show (-2 : Int32).toInt = -2 from by decide), (show (-2 : Int64).toInt = -2 from by decide), (show (0 : Int32).toInt = 0 from by decide), (show (0 : Int64).toInt = 0 from by decide), (show (1 : Int32).toInt = 1 from by decide), (show (1 : Int64).toInt = 1 from by decide), (show (2 : Int32).toInt = 2 from by decide), (show (2 : Int64).toInt = 2 from by decide), (show (3 : Int32).toInt = 3 from by decide), (show (3 : Int64).toInt = 3 from by decide)] at *; omega)))]
theorem lf_x_lay_5 (s : Int32) (m : Int32) (c_2 : ¬ (s = 0)) (c_6 : ¬ (s = 1)) (c_10 : s = 2) (c_12 : 0 ≤ m ∧ m ≤ 2) : ((-11) : Int32) = if 0 ≤ s ∧ s ≤ 3 ∧ 0 ≤ m ∧ m ≤ 2 then -11 else -2 := by
  repeat first | rfl | rw [if_pos (by (first | omega | (simp only [Int64.le_iff_toInt_le, Int64.lt_iff_toInt_lt, Int32.le_iff_toInt_le, Int32.lt_iff_toInt_lt, ← Int32.toInt_inj, ← Int64.toInt_inj, Int32.toInt_toInt64, (show (-11 : Int32).toInt = -11 from by decide), (show (-11 : Int64).toInt = -11 from by decide), (show (-2 : Int32).toInt = -2 from by decide), (show (-2 : Int64).toInt = -2 from by decide), (show (0 : Int32).toInt = 0 from by decide), (show (0 : Int64).toInt = 0 from by decide), (show (1 : Int32).toInt = 1 from by decide), (show (1 : Int64).toInt = 1 from by decide), (show (2 : Int32).toInt = 2 from by decide), (show (2 : Int64).toInt = 2 from by decide), (show (3 : Int32).toInt = 3 from by decide), (show (3 : Int64).toInt = 3 from by decide)] at *; omega)))] | rw [if_neg (by (first | omega | (simp only [Int64.le_iff_toInt_le, Int64.lt_iff_toInt_lt, Int32.le_iff_toInt_le, Int32.lt_iff_toInt_lt, ← Int32.toInt_inj, ← Int64.toInt_inj, Int32.toInt_toInt64, (show (-11 : Int32).toInt = -11 from by decide), (show (-11 : Int64).toInt = -11 from by decide), (show (-2 : Int32).toInt = -2 from by decide), (show (-2 : Int64).toInt = -2 from by decide), (show (0 : Int32).toInt = 0 from by decide), (show (0 : Int64).toInt = 0 from by decide), (show (1 : Int32).toInt = 1 from by decide), (show (1 : Int64).toInt = 1 from by decide), (show (2 : Int32).toInt = 2 from by decide), (show (2 : Int64).toInt = 2 from by decide), (show (3 : Int32).toInt = 3 from by decide), (show (3 : Int64).toInt = 3 from by decide)] at *; omega)))]
theorem lf_x_lay_6 (s : Int32) (m : Int32) (c_2 : ¬ (s = 0)) (c_6 : ¬ (s = 1)) (c_10 : s = 2) (c_12 : ¬ (0 ≤ m ∧ m ≤ 2)) : ((-2) : Int32) = if 0 ≤ s ∧ s ≤ 3 ∧ 0 ≤ m ∧ m ≤ 2 then -11 else -2 := by
  repeat first | rfl | rw [if_pos (by (first | omega | (simp only [Int64.le_iff_toInt_le, Int64.lt_iff_toInt_lt, Int32.le_iff_toInt_le, Int32.lt_iff_toInt_lt, ← Int32.toInt_inj, ← Int64.toInt_inj, Int32.toInt_toInt64, (show (-11 : Int32).toInt = -11 from by decide), (show (-11 : Int64).toInt = -11 from by decide), (show (-2 : Int32).toInt = -2 from by decide), (show (-2 : Int64).toInt = -2 from by decide), (show (0 : Int32).toInt = 0 from by decide), (show (0 : Int64).toInt = 0 from by decide), (show (1 : Int32).toInt = 1 from by decide), (show (1 : Int64).toInt = 1 from by decide), (show (2 : Int32).toInt = 2 from by decide), (show (2 : Int64).toInt = 2 from by decide), (show (3 : Int32).toInt = 3 from by decide), (show (3 : Int64).toInt = 3 from by decide)] at *; omega)))] | rw [if_neg (by (first | omega | (simp only [Int64.le_iff_toInt_le, Int64.lt_iff_toInt_lt, Int32.le_iff_toInt_le, Int32.lt_iff_toInt_lt, ← Int32.toInt_inj, ← Int64.toInt_inj, Int32.toInt_toInt64, (show (-11 : Int32).toInt = -11 from by decide), (show (-11 : Int64).toInt = -11 from by decide), (show (-2 : Int32).toInt = -2 from by decide), (show (-2 : Int64).toInt = -2 from by decide), (show (0 : Int32).toInt = 0 from by decide), (show (0 : Int64).toInt = 0 from by decide), (show (1 : Int32).toInt = 1 from by decide), (show (1 : Int64).toInt = 1 from by decide), (show (2 : Int32).toInt = 2 from by decide), (show (2 : Int64).toInt = 2 from by decide), (show (3 : Int32).toInt = 3 from by decide), (show (3 : Int64).toInt = 3 from by decide)] at *; omega)))]
theorem lf_x_lay_7 (s : Int32) (m : Int32) (c_2 : ¬ (s = 0)) (c_6 : ¬ (s = 1)) (c_10 : ¬ (s = 2)) (c_14 : s = 3) (c_16 : 0 ≤ m ∧ m ≤ 2) : ((-11) : Int32) = if 0 ≤ s ∧ s ≤ 3 ∧ 0 ≤ m ∧ m ≤ 2 then -11 else -2 := by
  repeat first | rfl | rw [if_pos (by (first | omega | (simp only [Int64.le_iff_toInt_le, Int64.lt_iff_toInt_lt, Int32.le_iff_toInt_le, Int32.lt_iff_toInt_lt, ← Int32.toInt_inj, ← Int64.toInt_inj, Int32.toInt_toInt64, (show (-11 : Int32).toInt = -11 from by decide), (show (-11 : Int64).toInt = -11 from by decide), (show (-2 : Int32).toInt = -2 from by decide), (show (-2 : Int64).toInt = -2 from by decide), (show (0 : Int32).toInt = 0 from by decide), (show (0 : Int64).toInt = 0 from by decide), (show (1 : Int32).toInt = 1 from by decide), (show (1 : Int64).toInt = 1 from by decide), (show (2 : Int32).toInt = 2 from by decide), (show (2 : Int64).toInt = 2 from by decide), (show (3 : Int32).toInt = 3 from by decide), (show (3 : Int64).toInt = 3 from by decide)] at *; omega)))] | rw [if_neg (by (first | omega | (simp only [Int64.le_iff_toInt_le, Int64.lt_iff_toInt_lt, Int32.le_iff_toInt_le, Int32.lt_iff_toInt_lt, ← Int32.toInt_inj, ← Int64.toInt_inj, Int32.toInt_toInt64, (show (-11 : Int32).toInt = -11 from by decide), (show (-11 : Int64).toInt = -11 from by decide), (show (-2 : Int32).toInt = -2 from by decide), (show (-2 : Int64).toInt = -2 from by decide), (show (0 : Int32).toInt = 0 from by decide), (show (0 : Int64).toInt = 0 from by decide), (show (1 : Int32).toInt = 1 from by decide), (show (1 : Int64).toInt = 1 from by decide), (show (2 : Int32).toInt = 2 from by decide), (show (2 : Int64).toInt = 2 from by decide), (show (3 : Int32).toInt = 3 from by decide), (show (3 : Int64).toInt = 3 from by decide)] at *; omega)))]
theorem lf_x_lay_8 (s : Int32) (m : Int32) (c_2 : ¬ (s = 0)) (c_6 : ¬ (s = 1)) (c_10 : ¬ (s = 2)) (c_14 : s = 3) (c_16 : ¬ (0 ≤ m ∧ m ≤ 2)) : ((-2) : Int32) = if 0 ≤ s ∧ s ≤ 3 ∧ 0 ≤ m ∧ m ≤ 2 then -11 else -2 := by
  repeat first | rfl | rw [if_pos (by (first | omega | (simp only [Int64.le_iff_toInt_le, Int64.lt_iff_toInt_lt, Int32.le_iff_toInt_le, Int32.lt_iff_toInt_lt, ← Int32.toInt_inj, ← Int64.toInt_inj, Int32.toInt_toInt64, (show (-11 : Int32).toInt = -11 from by decide), (show (-11 : Int64).toInt = -11 from by decide), (show (-2 : Int32).toInt = -2 from by decide), (show (-2 : Int64).toInt = -2 from by decide), (show (0 : Int32).toInt = 0 from by decide), (show (0 : Int64).toInt = 0 from by decide), (show (1 : Int32).toInt = 1 from by decide), (show (1 : Int64).toInt = 1 from by decide), (show (2 : Int32).toInt = 2 from by decide), (show (2 : Int64).toInt = 2 from by decide), (show (3 : Int32).toInt = 3 from by decide), (show (3 : Int64).toInt = 3 from by decide)] at *; omega)))] | rw [if_neg (by (first | omega | (simp only [Int64.le_iff_toInt_le, Int64.lt_iff_toInt_lt, Int32.le_iff_toInt_le, Int32.lt_iff_toInt_lt, ← Int32.toInt_inj, ← Int64.toInt_inj, Int32.toInt_toInt64, (show (-11 : Int32).toInt = -11 from by decide), (show (-11 : Int64).toInt = -11 from by decide), (show (-2 : Int32).toInt = -2 from by decide), (show (-2 : Int64).toInt = -2 from by decide), (show (0 : Int32).toInt = 0 from by decide), (show (0 : Int64).toInt = 0 from by decide), (show (1 : Int32).toInt = 1 from by decide), (show (1 : Int64).toInt = 1 from by decide), (show (2 : Int32).toInt = 2 from by decide), (show (2 : Int64).toInt = 2 from by decide), (show (3 : Int32).toInt = 3 from by decide), (show (3 : Int64).toInt = 3 from by decide)] at *; omega)))]
theorem lf_x_lay_9 (s : Int32) (m : Int32) (c_2 : ¬ (s = 0)) (c_6 : ¬ (s = 1)) (c_10 : ¬ (s = 2)) (c_14 : ¬ (s = 3)) : ((-2) : Int32) = if 0 ≤ s ∧ s ≤ 3 ∧ 0 ≤ m ∧ m ≤ 2 then -11 else -2 := by
  repeat first | rfl | rw [if_pos (by (first | omega | (simp only [Int64.le_iff_toInt_le, Int64.lt_iff_toInt_lt, Int32.le_iff_toInt_le, Int32.lt_iff_toInt_lt, ← Int32.toInt_inj, ← Int64.toInt_inj, Int32.toInt_toInt64, (show (-11 : Int32).toInt = -11 from by decide), (show (-11 : Int64).toInt = -11 from by decide), (show (-2 : Int32).toInt = -2 from by decide), (show (-2 : Int64).toInt = -2 from by decide), (show (0 : Int32).toInt = 0 from by decide), (show (0 : Int64).toInt = 0 from by decide), (show (1 : Int32).toInt = 1 from by decide), (show (1 : Int64).toInt = 1 from by decide), (show (2 : Int32).toInt = 2 from by decide), (show (2 : Int64).toInt = 2 from by decide), (show (3 : Int32).toInt = 3 from by decide), (show (3 : Int64).toInt = 3 from by decide)] at *; omega)))] | rw [if_neg (by (first | omega | (simp only [Int64.le_iff_toInt_le, Int64.lt_iff_toInt_lt, Int32.le_iff_toInt_le, Int32.lt_iff_toInt_lt, ← Int32.toInt_inj, ← Int64.toInt_inj, Int32.toInt_toInt64, (show (-11 : Int32).toInt = -11 from by decide), (show (-11 : Int64).toInt = -11 from by decide), (show (-2 : Int32).toInt = -2 from by decide), (show (-2 : Int64).toInt = -2 from by decide), (show (0 : Int32).toInt = 0 from by decide), (show (0 : Int64).toInt = 0 from by decide), (show (1 : Int32).toInt = 1 from by decide), (show (1 : Int64).toInt = 1 from by decide), (show (2 : Int32).toInt = 2 from by decide), (show (2 : Int64).toInt = 2 from by decide), (show (3 : Int32).toInt = 3 from by decide), (show (3 : Int64).toInt = 3 from by decide)] at *; omega)))]
set_option maxHeartbeats 4000000 in
set_option maxRecDepth 100000 in
theorem x_lay (l : Launch) (dC : Nat → ClassId) (dI : Nat → Nat → Nat) (cI cJ cQ : ClassId) (sz : Nat) (hx : Nat) (s : Int32) (m : Int32) (i : Int32) (v : Int32) (aLa : Nat) (aPa : Nat) (aGe : Nat) (aFl : Nat) (aTr : Nat) (aBe : Nat) (aLu : Nat) (aLo : Nat) (vSf : Nat) (vSm : Nat) (vCo : Nat) (vSh : Nat) (s0 : Nat) (i0 : Nat) (s1 : Nat) (i1 : Nat) (s2 : Nat) (i2 : Nat) (s3 : Nat) (i3 : Nat) : Met l yX11_lay (kW yX11_lay cX11_lay 7 (some .int)) { frames := 2, cells := 0, slots := 0, locals := 44 } (kPre dC dI cI cJ cQ sz [.ref hx, .int s, .int m, .int i, .int v] [(hx, .inr (10, [.ref aLa, .ref aPa, .ref aGe, .ref aFl, .ref aTr, .ref aBe, .ref aLu, .ref aLo, .ref vSf, .ref vSm, .ref vCo, .ref vSh, .int 0, .int 0, .int 0])), (vSh, .inl (cQ, 4, .inr (.inr (.inr (.inr (fSh s0 s1 s2 s3)))))), (s0, .inr (8, [.ref i0, .int 1, .int 0, .int 0])), (s1, .inr (8, [.ref i1, .int 1, .int 0, .int 0])), (s2, .inr (8, [.ref i2, .int 1, .int 0, .int 0])), (s3, .inr (8, [.ref i3, .int 1, .int 0, .int 0]))]) (va_Qi (fun (r : Int32) (_ : Unit) => r = if 0 ≤ s ∧ s ≤ 3 ∧ 0 ≤ m ∧ m ≤ 2 then -11 else -2) (fun _ _ => True) (va_A [(hx, .inr (10, [.ref aLa, .ref aPa, .ref aGe, .ref aFl, .ref aTr, .ref aBe, .ref aLu, .ref aLo, .ref vSf, .ref vSm, .ref vCo, .ref vSh, .int 0, .int 0, .int 0])), (vSh, .inl (cQ, 4, .inr (.inr (.inr (.inr (fSh s0 s1 s2 s3)))))), (s0, .inr (8, [.ref i0, .int 1, .int 0, .int 0])), (s1, .inr (8, [.ref i1, .int 1, .int 0, .int 0])), (s2, .inr (8, [.ref i2, .int 1, .int 0, .int 0])), (s3, .inr (8, [.ref i3, .int 1, .int 0, .int 0]))] sz)) 0 0 (va_A [(hx, .inr (10, [.ref aLa, .ref aPa, .ref aGe, .ref aFl, .ref aTr, .ref aBe, .ref aLu, .ref aLo, .ref vSf, .ref vSm, .ref vCo, .ref vSh, .int 0, .int 0, .int 0])), (vSh, .inl (cQ, 4, .inr (.inr (.inr (.inr (fSh s0 s1 s2 s3)))))), (s0, .inr (8, [.ref i0, .int 1, .int 0, .int 0])), (s1, .inr (8, [.ref i1, .int 1, .int 0, .int 0])), (s2, .inr (8, [.ref i2, .int 1, .int 0, .int 0])), (s3, .inr (8, [.ref i3, .int 1, .int 0, .int 0]))] sz) := by
  refine Met.ofW (cc := cX11_lay) (maxL := 7) (ret := (some .int)) (by decide) rfl ?_
  intro p₀ e₀ s₀ m₀ args below meth c₀ s₁ B hml hv₀
  obtain ⟨rfl, hsz, hP, hK, hD0, hN⟩ := hv₀
  have hx₀ := B.exec
  have hb := B.bytes
  have hr := B.returns
  have hts := atoms_spec (ws := (kW yX11_lay cX11_lay 7 (some .int))) B.pre
  have hts := fun w h => hts w (List.mem_cons_of_mem _ h)
  have hown : s₀.vm.findClass RX11 = some m₀.cls := findClass_of_methodNamed B.named
  have hlocks := B.notSynchronized
  subst hsz
  have hD := hD0.self (sz := s₀.heap.size)
  generalize hAe : va_A [(hx, .inr (10, [.ref aLa, .ref aPa, .ref aGe, .ref aFl, .ref aTr, .ref aBe, .ref aLu, .ref aLo, .ref vSf, .ref vSm, .ref vCo, .ref vSh, .int 0, .int 0, .int 0])), (vSh, .inl (cQ, 4, .inr (.inr (.inr (.inr (fSh s0 s1 s2 s3)))))), (s0, .inr (8, [.ref i0, .int 1, .int 0, .int 0])), (s1, .inr (8, [.ref i1, .int 1, .int 0, .int 0])), (s2, .inr (8, [.ref i2, .int 1, .int 0, .int 0])), (s3, .inr (8, [.ref i3, .int 1, .int 0, .int 0]))] s₀.heap.size = A at hD ⊢
  have hA : ∀ q : Nat, s₀.heap.size ≤ q → A q := fun q h => by rw [← hAe]; exact Or.inr h
  have hS : va_S A s₀.heap s₀.heap [] := va_S.rf
  have hP : va_P (dC, dI) vwCl [(hx, .inr (10, [.ref aLa, .ref aPa, .ref aGe, .ref aFl, .ref aTr, .ref aBe, .ref aLu, .ref aLo, .ref vSf, .ref vSm, .ref vCo, .ref vSh, .int 0, .int 0, .int 0])), (vSh, .inl (cQ, 4, .inr (.inr (.inr (.inr (fSh s0 s1 s2 s3)))))), (s0, .inr (8, [.ref i0, .int 1, .int 0, .int 0])), (s1, .inr (8, [.ref i1, .int 1, .int 0, .int 0])), (s2, .inr (8, [.ref i2, .int 1, .int 0, .int 0])), (s3, .inr (8, [.ref i3, .int 1, .int 0, .int 0]))] s₀.heap := hP
  have hl := lv_entry ([.ref hx, .int s, .int m, .int i, .int v]) (n := 7) (Nat.le_of_ble_eq_true rfl)
  rw [lg_entry_eq]
  generalize (lg_sl ([.ref hx, .int s, .int m, .int i, .int v]) ++ List.replicate (7 - (lg_sl ([.ref hx, .int s, .int m, .int i, .int v])).length) Slot.unset).toArray = ls at hl ⊢
  have hl : lv_has ls 7 [(0, .ref hx), (1, .int s), (2, .int m), (3, .int i), (4, .int v)] := hl
  obtain ⟨H, hH⟩ : ∃ z : Heap, z = s₀.heap := ⟨_, rfl⟩
  rw [← hH] at hP
  have hS : va_S A s₀.heap H [] := by rw [hH]; exact hS
  refine k_heap hH ?_
  have hD : va_D A [(hx, .inr (10, [.ref aLa, .ref aPa, .ref aGe, .ref aFl, .ref aTr, .ref aBe, .ref aLu, .ref aLo, .ref vSf, .ref vSm, .ref vCo, .ref vSh, .int 0, .int 0, .int 0])), (vSh, .inl (cQ, 4, .inr (.inr (.inr (.inr (fSh s0 s1 s2 s3)))))), (s0, .inr (8, [.ref i0, .int 1, .int 0, .int 0])), (s1, .inr (8, [.ref i1, .int 1, .int 0, .int 0])), (s2, .inr (8, [.ref i2, .int 1, .int 0, .int 0])), (s3, .inr (8, [.ref i3, .int 1, .int 0, .int 0]))] := hD
  obtain ⟨locs, hlo⟩ : ∃ z : List Loc, z = [] := ⟨_, rfl⟩
  rw [← hlo] at hS ⊢
  clear hlo hH hAe hD0
  refine lv_aload_n hx₀ hb dX11_lay_0 rfl (lv_at hl 0 rfl) ?_
  refine lv_iload_n hx₀ hb dX11_lay_1 rfl (lv_at hl 1 rfl) ?_
  have hPc := hP.sub (ws' := [(hx, .inr (10, [.ref aLa, .ref aPa, .ref aGe, .ref aFl, .ref aTr, .ref aBe, .ref aLu, .ref aLo, .ref vSf, .ref vSm, .ref vCo, .ref vSh, .int 0, .int 0, .int 0])), (vSh, .inl (cQ, 4, .inr (.inr (.inr (.inr (fSh s0 s1 s2 s3))))))]) [0, 1] rfl
  have hDc := hD.sub (ws' := [(hx, .inr (10, [.ref aLa, .ref aPa, .ref aGe, .ref aFl, .ref aTr, .ref aBe, .ref aLu, .ref aLo, .ref vSf, .ref vSm, .ref vCo, .ref vSh, .int 0, .int 0, .int 0])), (vSh, .inl (cQ, 4, .inr (.inr (.inr (.inr (fSh s0 s1 s2 s3))))))]) [0, 1] (by decide) rfl
  have hFc := va_free (wc := [(hx, .inr (10, [.ref aLa, .ref aPa, .ref aGe, .ref aFl, .ref aTr, .ref aBe, .ref aLu, .ref aLo, .ref vSf, .ref vSm, .ref vCo, .ref vSh, .int 0, .int 0, .int 0])), (vSh, .inl (cQ, 4, .inr (.inr (.inr (.inr (fSh s0 s1 s2 s3))))))]) hD hS hA [0, 1] rfl
  refine va_callq (va_runV (As := [.int s]) (rest := []) ⟨hx₀, hb, hml, hown, hts⟩ (c_sheetOf l dC dI cI cJ cQ H.size hx s aLa aPa aGe aFl aTr aBe aLu aLo vSf vSm vCo vSh s0 s1 s2 s3) (cwV 1 hts (kGV wd_383 wd_380 wd_381 wd_382 wd_2) rfl rfl rfl (by decide +kernel) ⟨Nat.le_of_ble_eq_true rfl, Nat.le_of_ble_eq_true rfl⟩) (k_preV (ci := 10) (q0 := 0) hK hPc hDc hN rfl rfl) rfl rfl hl.1 rfl (lv_room (Nat.le_of_ble_eq_true rfl)) dX11_lay_2 ⟨by decide +kernel, by decide +kernel⟩) hS (fun q _ h => hFc q h) hFc (fun r_1 u₀ t₀ H1 locs ht hvm hw hB hz1 hk1 hS => ?_)
  obtain ⟨hP1, hK1, hD1⟩ := hB
  rw [ht] at hP1
  obtain ⟨hP, hD⟩ := va_join (wr := [(s0, .inr (8, [.ref i0, .int 1, .int 0, .int 0])), (s1, .inr (8, [.ref i1, .int 1, .int 0, .int 0])), (s2, .inr (8, [.ref i2, .int 1, .int 0, .int 0])), (s3, .inr (8, [.ref i3, .int 1, .int 0, .int 0]))]) (w1 := [(hx, .inr (10, [.ref aLa, .ref aPa, .ref aGe, .ref aFl, .ref aTr, .ref aBe, .ref aLu, .ref aLo, .ref vSf, .ref vSm, .ref vCo, .ref vSh, .int 0, .int 0, .int 0])), (vSh, .inl (cQ, 4, .inr (.inr (.inr (.inr (fSh s0 s1 s2 s3))))))]) hP hD [0, 1] [2, 3, 4, 5] rfl rfl (by decide) (by decide) hk1 hFc hP1 hD1
  generalize H1 = H at hP hS ⊢
  have hP : va_P (dC, dI) vwCl [(s0, .inr (8, [.ref i0, .int 1, .int 0, .int 0])), (s1, .inr (8, [.ref i1, .int 1, .int 0, .int 0])), (s2, .inr (8, [.ref i2, .int 1, .int 0, .int 0])), (s3, .inr (8, [.ref i3, .int 1, .int 0, .int 0])), (hx, .inr (10, [.ref aLa, .ref aPa, .ref aGe, .ref aFl, .ref aTr, .ref aBe, .ref aLu, .ref aLo, .ref vSf, .ref vSm, .ref vCo, .ref vSh, .int 0, .int 0, .int 0])), (vSh, .inl (cQ, 4, .inr (.inr (.inr (.inr (fSh s0 s1 s2 s3))))))] H := hP
  have hD : va_D A [(s0, .inr (8, [.ref i0, .int 1, .int 0, .int 0])), (s1, .inr (8, [.ref i1, .int 1, .int 0, .int 0])), (s2, .inr (8, [.ref i2, .int 1, .int 0, .int 0])), (s3, .inr (8, [.ref i3, .int 1, .int 0, .int 0])), (hx, .inr (10, [.ref aLa, .ref aPa, .ref aGe, .ref aFl, .ref aTr, .ref aBe, .ref aLu, .ref aLo, .ref vSf, .ref vSm, .ref vCo, .ref vSh, .int 0, .int 0, .int 0])), (vSh, .inl (cQ, 4, .inr (.inr (.inr (.inr (fSh s0 s1 s2 s3))))))] := hD
  try dsimp only at hw
  by_cases c_2 : s = 0
  · rw [if_pos c_2] at hw
    subst hw
    refine W.eq (g2 := F0 m₀ 5 ls [.ref s0]) rfl ?_
    refine lv_astore (lv' := [(5, .ref s0), (0, .ref hx), (1, .int s), (2, .int m), (3, .int i), (4, .int v)]) hx₀ hb dX11_lay_5 hl (by decide) rfl (fun ls hl => ?_)
    refine lv_aload hx₀ hb dX11_lay_7 (lv_at hl 0 rfl) ?_
    refine lv_ifnull hx₀ hb dX11_lay_9 ?_
    refine lv_iload_n hx₀ hb dX11_lay_12 rfl (lv_at hl 3 rfl) ?_
    have hPc := hP.sub (ws' := []) [] rfl
    have hDc := hD.sub (ws' := []) [] (by decide) rfl
    have hFc := va_free (wc := []) hD hS hA [] rfl
    refine va_calli (va_runS (As := [.int m]) (rest := []) ⟨hx₀, hb, hml, hown, hts⟩ (c_isForm l dC dI cI cJ cQ H.size m) (va_cwS 1 hts (kGS wd_864 wd_862 wd_863 wd_2) rfl rfl rfl (by decide +kernel) ⟨Nat.le_of_ble_eq_true rfl, Nat.le_of_ble_eq_true rfl⟩) (k_preS hK hPc hDc hN) rfl rfl hl.1 rfl (lv_room (Nat.le_of_ble_eq_true rfl)) dX11_lay_13 ⟨by decide +kernel, by decide +kernel⟩) hS (fun q _ h => hFc q h) hFc (fun r_3 u₀ t₀ H1 locs ht hvm hw hB hz1 hk1 hS => ?_)
    obtain ⟨hP1, hK1, hD1⟩ := hB
    rw [ht] at hP1
    obtain ⟨hP, hD⟩ := va_join (wr := [(s0, .inr (8, [.ref i0, .int 1, .int 0, .int 0])), (s1, .inr (8, [.ref i1, .int 1, .int 0, .int 0])), (s2, .inr (8, [.ref i2, .int 1, .int 0, .int 0])), (s3, .inr (8, [.ref i3, .int 1, .int 0, .int 0])), (hx, .inr (10, [.ref aLa, .ref aPa, .ref aGe, .ref aFl, .ref aTr, .ref aBe, .ref aLu, .ref aLo, .ref vSf, .ref vSm, .ref vCo, .ref vSh, .int 0, .int 0, .int 0])), (vSh, .inl (cQ, 4, .inr (.inr (.inr (.inr (fSh s0 s1 s2 s3))))))]) (w1 := []) hP hD [] [0, 1, 2, 3, 4, 5] rfl rfl (by decide) (by decide) hk1 hFc hP1 hD1
    generalize H1 = H at hP hS ⊢
    have hP : va_P (dC, dI) vwCl [(s0, .inr (8, [.ref i0, .int 1, .int 0, .int 0])), (s1, .inr (8, [.ref i1, .int 1, .int 0, .int 0])), (s2, .inr (8, [.ref i2, .int 1, .int 0, .int 0])), (s3, .inr (8, [.ref i3, .int 1, .int 0, .int 0])), (hx, .inr (10, [.ref aLa, .ref aPa, .ref aGe, .ref aFl, .ref aTr, .ref aBe, .ref aLu, .ref aLo, .ref vSf, .ref vSm, .ref vCo, .ref vSh, .int 0, .int 0, .int 0])), (vSh, .inl (cQ, 4, .inr (.inr (.inr (.inr (fSh s0 s1 s2 s3))))))] H := hP
    have hD : va_D A [(s0, .inr (8, [.ref i0, .int 1, .int 0, .int 0])), (s1, .inr (8, [.ref i1, .int 1, .int 0, .int 0])), (s2, .inr (8, [.ref i2, .int 1, .int 0, .int 0])), (s3, .inr (8, [.ref i3, .int 1, .int 0, .int 0])), (hx, .inr (10, [.ref aLa, .ref aPa, .ref aGe, .ref aFl, .ref aTr, .ref aBe, .ref aLu, .ref aLo, .ref vSf, .ref vSm, .ref vCo, .ref vSh, .int 0, .int 0, .int 0])), (vSh, .inl (cQ, 4, .inr (.inr (.inr (.inr (fSh s0 s1 s2 s3))))))] := hD
    try dsimp only at hw
    by_cases c_4 : 0 ≤ m ∧ m ≤ 2
    · rw [if_pos c_4] at hw
      refine k_topi (v := 1) hw ?_
      refine lv_if_ne (tgt := 22) hx₀ hb dX11_lay_16 (by decide) (fun _ => ?_) (fun c9 => absurd c9 (by decide +kernel))
      refine lv_aload_n hx₀ hb dX11_lay_22 rfl (lv_at hl 1 rfl) ?_
      refine lv_aload hx₀ hb dX11_lay_23 (lv_at hl 0 rfl) ?_
      refine lv_iload_n hx₀ hb dX11_lay_25 rfl (lv_at hl 3 rfl) ?_
      refine lv_iload_n hx₀ hb dX11_lay_26 rfl (lv_at hl 4 rfl) ?_
      have hPc := hP.sub (ws' := [(hx, .inr (10, [.ref aLa, .ref aPa, .ref aGe, .ref aFl, .ref aTr, .ref aBe, .ref aLu, .ref aLo, .ref vSf, .ref vSm, .ref vCo, .ref vSh, .int 0, .int 0, .int 0])), (s0, .inr (8, [.ref i0, .int 1, .int 0, .int 0]))]) [4, 0] rfl
      have hDc := hD.sub (ws' := [(hx, .inr (10, [.ref aLa, .ref aPa, .ref aGe, .ref aFl, .ref aTr, .ref aBe, .ref aLu, .ref aLo, .ref vSf, .ref vSm, .ref vCo, .ref vSh, .int 0, .int 0, .int 0])), (s0, .inr (8, [.ref i0, .int 1, .int 0, .int 0]))]) [4, 0] (by decide) rfl
      have hFc := va_free (wc := [(hx, .inr (10, [.ref aLa, .ref aPa, .ref aGe, .ref aFl, .ref aTr, .ref aBe, .ref aLu, .ref aLo, .ref vSf, .ref vSm, .ref vCo, .ref vSh, .int 0, .int 0, .int 0])), (s0, .inr (8, [.ref i0, .int 1, .int 0, .int 0]))]) hD hS hA [4, 0] rfl
      refine va_calli (va_runV (As := [.ref s0, .int m, .int i]) (rest := []) ⟨hx₀, hb, hml, hown, hts⟩ (c_refuse l dC dI cI cJ cQ H.size hx s0 m i aLa aPa aGe aFl aTr aBe aLu aLo vSf vSm vCo vSh i0) (cwV 3 hts (kGV wd_891 wd_888 wd_889 wd_890 wd_2) rfl rfl rfl (by decide +kernel) ⟨Nat.le_of_ble_eq_true rfl, Nat.le_of_ble_eq_true rfl⟩) (k_preV (ci := 10) (q0 := 0) hK hPc hDc hN rfl rfl) rfl rfl hl.1 rfl (lv_room (Nat.le_of_ble_eq_true rfl)) dX11_lay_27 ⟨by decide +kernel, by decide +kernel⟩) hS (fun q _ h => hFc q h) hFc (fun r_5 u₀ t₀ H1 locs ht hvm hw hB hz1 hk1 hS => ?_)
      obtain ⟨hP, hD⟩ := va_join (wr := [(s1, .inr (8, [.ref i1, .int 1, .int 0, .int 0])), (s2, .inr (8, [.ref i2, .int 1, .int 0, .int 0])), (s3, .inr (8, [.ref i3, .int 1, .int 0, .int 0])), (vSh, .inl (cQ, 4, .inr (.inr (.inr (.inr (fSh s0 s1 s2 s3))))))]) (w1 := []) hP hD [4, 0] [1, 2, 3, 5] rfl rfl (by decide) (by decide) hk1 hFc (k_nilP _) (k_nilD _)
      generalize H1 = H at hP hS ⊢
      have hP : va_P (dC, dI) vwCl [(s1, .inr (8, [.ref i1, .int 1, .int 0, .int 0])), (s2, .inr (8, [.ref i2, .int 1, .int 0, .int 0])), (s3, .inr (8, [.ref i3, .int 1, .int 0, .int 0])), (vSh, .inl (cQ, 4, .inr (.inr (.inr (.inr (fSh s0 s1 s2 s3))))))] H := hP
      have hD : va_D A [(s1, .inr (8, [.ref i1, .int 1, .int 0, .int 0])), (s2, .inr (8, [.ref i2, .int 1, .int 0, .int 0])), (s3, .inr (8, [.ref i3, .int 1, .int 0, .int 0])), (vSh, .inl (cQ, 4, .inr (.inr (.inr (.inr (fSh s0 s1 s2 s3))))))] := hD
      try dsimp only at hw
      refine k_topi (v := (-11)) hw ?_
      refine lv_istore (lv' := [(6, .int (-11)), (5, .ref s0), (0, .ref hx), (1, .int s), (2, .int m), (3, .int i), (4, .int v)]) hx₀ hb dX11_lay_30 hl (by decide) rfl (fun ls hl => ?_)
      refine lv_iload hx₀ hb dX11_lay_32 (lv_at hl 0 rfl) ?_
      refine lv_if_eq (tgt := 40) hx₀ hb dX11_lay_34 (by decide) (fun c9 => absurd c9 (by decide +kernel)) (fun _ => ?_)
      refine lv_iload hx₀ hb dX11_lay_37 (lv_at hl 0 rfl) ?_
      exact W.iret (v := (-11)) hx₀ hb hr (fun t₀ ht hW => ⟨⟨(-11), (), rfl, (lf_x_lay_1 s m c_2 c_4), trivial⟩, hS.F ht⟩) hS.2.2 dX11_lay_39
    rw [if_neg c_4] at hw
    refine k_topi (v := 0) hw ?_
    refine lv_if_ne (tgt := 22) hx₀ hb dX11_lay_16 (by decide) (fun c9 => absurd (by decide +kernel) c9) (fun _ => ?_)
    refine lv_bipush (v := (-2)) hx₀ hb dX11_lay_19 (by decide +kernel) ?_
    exact W.iret (v := (-2)) hx₀ hb hr (fun t₀ ht hW => ⟨⟨(-2), (), rfl, (lf_x_lay_2 s m c_2 c_4), trivial⟩, hS.F ht⟩) hS.2.2 dX11_lay_21
  rw [if_neg c_2] at hw
  by_cases c_6 : s = 1
  · rw [if_pos c_6] at hw
    subst hw
    refine W.eq (g2 := F0 m₀ 5 ls [.ref s1]) rfl ?_
    refine lv_astore (lv' := [(5, .ref s1), (0, .ref hx), (1, .int s), (2, .int m), (3, .int i), (4, .int v)]) hx₀ hb dX11_lay_5 hl (by decide) rfl (fun ls hl => ?_)
    refine lv_aload hx₀ hb dX11_lay_7 (lv_at hl 0 rfl) ?_
    refine lv_ifnull hx₀ hb dX11_lay_9 ?_
    refine lv_iload_n hx₀ hb dX11_lay_12 rfl (lv_at hl 3 rfl) ?_
    have hPc := hP.sub (ws' := []) [] rfl
    have hDc := hD.sub (ws' := []) [] (by decide) rfl
    have hFc := va_free (wc := []) hD hS hA [] rfl
    refine va_calli (va_runS (As := [.int m]) (rest := []) ⟨hx₀, hb, hml, hown, hts⟩ (c_isForm l dC dI cI cJ cQ H.size m) (va_cwS 1 hts (kGS wd_864 wd_862 wd_863 wd_2) rfl rfl rfl (by decide +kernel) ⟨Nat.le_of_ble_eq_true rfl, Nat.le_of_ble_eq_true rfl⟩) (k_preS hK hPc hDc hN) rfl rfl hl.1 rfl (lv_room (Nat.le_of_ble_eq_true rfl)) dX11_lay_13 ⟨by decide +kernel, by decide +kernel⟩) hS (fun q _ h => hFc q h) hFc (fun r_7 u₀ t₀ H1 locs ht hvm hw hB hz1 hk1 hS => ?_)
    obtain ⟨hP1, hK1, hD1⟩ := hB
    rw [ht] at hP1
    obtain ⟨hP, hD⟩ := va_join (wr := [(s0, .inr (8, [.ref i0, .int 1, .int 0, .int 0])), (s1, .inr (8, [.ref i1, .int 1, .int 0, .int 0])), (s2, .inr (8, [.ref i2, .int 1, .int 0, .int 0])), (s3, .inr (8, [.ref i3, .int 1, .int 0, .int 0])), (hx, .inr (10, [.ref aLa, .ref aPa, .ref aGe, .ref aFl, .ref aTr, .ref aBe, .ref aLu, .ref aLo, .ref vSf, .ref vSm, .ref vCo, .ref vSh, .int 0, .int 0, .int 0])), (vSh, .inl (cQ, 4, .inr (.inr (.inr (.inr (fSh s0 s1 s2 s3))))))]) (w1 := []) hP hD [] [0, 1, 2, 3, 4, 5] rfl rfl (by decide) (by decide) hk1 hFc hP1 hD1
    generalize H1 = H at hP hS ⊢
    have hP : va_P (dC, dI) vwCl [(s0, .inr (8, [.ref i0, .int 1, .int 0, .int 0])), (s1, .inr (8, [.ref i1, .int 1, .int 0, .int 0])), (s2, .inr (8, [.ref i2, .int 1, .int 0, .int 0])), (s3, .inr (8, [.ref i3, .int 1, .int 0, .int 0])), (hx, .inr (10, [.ref aLa, .ref aPa, .ref aGe, .ref aFl, .ref aTr, .ref aBe, .ref aLu, .ref aLo, .ref vSf, .ref vSm, .ref vCo, .ref vSh, .int 0, .int 0, .int 0])), (vSh, .inl (cQ, 4, .inr (.inr (.inr (.inr (fSh s0 s1 s2 s3))))))] H := hP
    have hD : va_D A [(s0, .inr (8, [.ref i0, .int 1, .int 0, .int 0])), (s1, .inr (8, [.ref i1, .int 1, .int 0, .int 0])), (s2, .inr (8, [.ref i2, .int 1, .int 0, .int 0])), (s3, .inr (8, [.ref i3, .int 1, .int 0, .int 0])), (hx, .inr (10, [.ref aLa, .ref aPa, .ref aGe, .ref aFl, .ref aTr, .ref aBe, .ref aLu, .ref aLo, .ref vSf, .ref vSm, .ref vCo, .ref vSh, .int 0, .int 0, .int 0])), (vSh, .inl (cQ, 4, .inr (.inr (.inr (.inr (fSh s0 s1 s2 s3))))))] := hD
    try dsimp only at hw
    by_cases c_8 : 0 ≤ m ∧ m ≤ 2
    · rw [if_pos c_8] at hw
      refine k_topi (v := 1) hw ?_
      refine lv_if_ne (tgt := 22) hx₀ hb dX11_lay_16 (by decide) (fun _ => ?_) (fun c9 => absurd c9 (by decide +kernel))
      refine lv_aload_n hx₀ hb dX11_lay_22 rfl (lv_at hl 1 rfl) ?_
      refine lv_aload hx₀ hb dX11_lay_23 (lv_at hl 0 rfl) ?_
      refine lv_iload_n hx₀ hb dX11_lay_25 rfl (lv_at hl 3 rfl) ?_
      refine lv_iload_n hx₀ hb dX11_lay_26 rfl (lv_at hl 4 rfl) ?_
      have hPc := hP.sub (ws' := [(hx, .inr (10, [.ref aLa, .ref aPa, .ref aGe, .ref aFl, .ref aTr, .ref aBe, .ref aLu, .ref aLo, .ref vSf, .ref vSm, .ref vCo, .ref vSh, .int 0, .int 0, .int 0])), (s1, .inr (8, [.ref i1, .int 1, .int 0, .int 0]))]) [4, 1] rfl
      have hDc := hD.sub (ws' := [(hx, .inr (10, [.ref aLa, .ref aPa, .ref aGe, .ref aFl, .ref aTr, .ref aBe, .ref aLu, .ref aLo, .ref vSf, .ref vSm, .ref vCo, .ref vSh, .int 0, .int 0, .int 0])), (s1, .inr (8, [.ref i1, .int 1, .int 0, .int 0]))]) [4, 1] (by decide) rfl
      have hFc := va_free (wc := [(hx, .inr (10, [.ref aLa, .ref aPa, .ref aGe, .ref aFl, .ref aTr, .ref aBe, .ref aLu, .ref aLo, .ref vSf, .ref vSm, .ref vCo, .ref vSh, .int 0, .int 0, .int 0])), (s1, .inr (8, [.ref i1, .int 1, .int 0, .int 0]))]) hD hS hA [4, 1] rfl
      refine va_calli (va_runV (As := [.ref s1, .int m, .int i]) (rest := []) ⟨hx₀, hb, hml, hown, hts⟩ (c_refuse l dC dI cI cJ cQ H.size hx s1 m i aLa aPa aGe aFl aTr aBe aLu aLo vSf vSm vCo vSh i1) (cwV 3 hts (kGV wd_891 wd_888 wd_889 wd_890 wd_2) rfl rfl rfl (by decide +kernel) ⟨Nat.le_of_ble_eq_true rfl, Nat.le_of_ble_eq_true rfl⟩) (k_preV (ci := 10) (q0 := 0) hK hPc hDc hN rfl rfl) rfl rfl hl.1 rfl (lv_room (Nat.le_of_ble_eq_true rfl)) dX11_lay_27 ⟨by decide +kernel, by decide +kernel⟩) hS (fun q _ h => hFc q h) hFc (fun r_9 u₀ t₀ H1 locs ht hvm hw hB hz1 hk1 hS => ?_)
      obtain ⟨hP, hD⟩ := va_join (wr := [(s0, .inr (8, [.ref i0, .int 1, .int 0, .int 0])), (s2, .inr (8, [.ref i2, .int 1, .int 0, .int 0])), (s3, .inr (8, [.ref i3, .int 1, .int 0, .int 0])), (vSh, .inl (cQ, 4, .inr (.inr (.inr (.inr (fSh s0 s1 s2 s3))))))]) (w1 := []) hP hD [4, 1] [0, 2, 3, 5] rfl rfl (by decide) (by decide) hk1 hFc (k_nilP _) (k_nilD _)
      generalize H1 = H at hP hS ⊢
      have hP : va_P (dC, dI) vwCl [(s0, .inr (8, [.ref i0, .int 1, .int 0, .int 0])), (s2, .inr (8, [.ref i2, .int 1, .int 0, .int 0])), (s3, .inr (8, [.ref i3, .int 1, .int 0, .int 0])), (vSh, .inl (cQ, 4, .inr (.inr (.inr (.inr (fSh s0 s1 s2 s3))))))] H := hP
      have hD : va_D A [(s0, .inr (8, [.ref i0, .int 1, .int 0, .int 0])), (s2, .inr (8, [.ref i2, .int 1, .int 0, .int 0])), (s3, .inr (8, [.ref i3, .int 1, .int 0, .int 0])), (vSh, .inl (cQ, 4, .inr (.inr (.inr (.inr (fSh s0 s1 s2 s3))))))] := hD
      try dsimp only at hw
      refine k_topi (v := (-11)) hw ?_
      refine lv_istore (lv' := [(6, .int (-11)), (5, .ref s1), (0, .ref hx), (1, .int s), (2, .int m), (3, .int i), (4, .int v)]) hx₀ hb dX11_lay_30 hl (by decide) rfl (fun ls hl => ?_)
      refine lv_iload hx₀ hb dX11_lay_32 (lv_at hl 0 rfl) ?_
      refine lv_if_eq (tgt := 40) hx₀ hb dX11_lay_34 (by decide) (fun c9 => absurd c9 (by decide +kernel)) (fun _ => ?_)
      refine lv_iload hx₀ hb dX11_lay_37 (lv_at hl 0 rfl) ?_
      exact W.iret (v := (-11)) hx₀ hb hr (fun t₀ ht hW => ⟨⟨(-11), (), rfl, (lf_x_lay_3 s m c_2 c_6 c_8), trivial⟩, hS.F ht⟩) hS.2.2 dX11_lay_39
    rw [if_neg c_8] at hw
    refine k_topi (v := 0) hw ?_
    refine lv_if_ne (tgt := 22) hx₀ hb dX11_lay_16 (by decide) (fun c9 => absurd (by decide +kernel) c9) (fun _ => ?_)
    refine lv_bipush (v := (-2)) hx₀ hb dX11_lay_19 (by decide +kernel) ?_
    exact W.iret (v := (-2)) hx₀ hb hr (fun t₀ ht hW => ⟨⟨(-2), (), rfl, (lf_x_lay_4 s m c_2 c_6 c_8), trivial⟩, hS.F ht⟩) hS.2.2 dX11_lay_21
  rw [if_neg c_6] at hw
  by_cases c_10 : s = 2
  · rw [if_pos c_10] at hw
    subst hw
    refine W.eq (g2 := F0 m₀ 5 ls [.ref s2]) rfl ?_
    refine lv_astore (lv' := [(5, .ref s2), (0, .ref hx), (1, .int s), (2, .int m), (3, .int i), (4, .int v)]) hx₀ hb dX11_lay_5 hl (by decide) rfl (fun ls hl => ?_)
    refine lv_aload hx₀ hb dX11_lay_7 (lv_at hl 0 rfl) ?_
    refine lv_ifnull hx₀ hb dX11_lay_9 ?_
    refine lv_iload_n hx₀ hb dX11_lay_12 rfl (lv_at hl 3 rfl) ?_
    have hPc := hP.sub (ws' := []) [] rfl
    have hDc := hD.sub (ws' := []) [] (by decide) rfl
    have hFc := va_free (wc := []) hD hS hA [] rfl
    refine va_calli (va_runS (As := [.int m]) (rest := []) ⟨hx₀, hb, hml, hown, hts⟩ (c_isForm l dC dI cI cJ cQ H.size m) (va_cwS 1 hts (kGS wd_864 wd_862 wd_863 wd_2) rfl rfl rfl (by decide +kernel) ⟨Nat.le_of_ble_eq_true rfl, Nat.le_of_ble_eq_true rfl⟩) (k_preS hK hPc hDc hN) rfl rfl hl.1 rfl (lv_room (Nat.le_of_ble_eq_true rfl)) dX11_lay_13 ⟨by decide +kernel, by decide +kernel⟩) hS (fun q _ h => hFc q h) hFc (fun r_11 u₀ t₀ H1 locs ht hvm hw hB hz1 hk1 hS => ?_)
    obtain ⟨hP1, hK1, hD1⟩ := hB
    rw [ht] at hP1
    obtain ⟨hP, hD⟩ := va_join (wr := [(s0, .inr (8, [.ref i0, .int 1, .int 0, .int 0])), (s1, .inr (8, [.ref i1, .int 1, .int 0, .int 0])), (s2, .inr (8, [.ref i2, .int 1, .int 0, .int 0])), (s3, .inr (8, [.ref i3, .int 1, .int 0, .int 0])), (hx, .inr (10, [.ref aLa, .ref aPa, .ref aGe, .ref aFl, .ref aTr, .ref aBe, .ref aLu, .ref aLo, .ref vSf, .ref vSm, .ref vCo, .ref vSh, .int 0, .int 0, .int 0])), (vSh, .inl (cQ, 4, .inr (.inr (.inr (.inr (fSh s0 s1 s2 s3))))))]) (w1 := []) hP hD [] [0, 1, 2, 3, 4, 5] rfl rfl (by decide) (by decide) hk1 hFc hP1 hD1
    generalize H1 = H at hP hS ⊢
    have hP : va_P (dC, dI) vwCl [(s0, .inr (8, [.ref i0, .int 1, .int 0, .int 0])), (s1, .inr (8, [.ref i1, .int 1, .int 0, .int 0])), (s2, .inr (8, [.ref i2, .int 1, .int 0, .int 0])), (s3, .inr (8, [.ref i3, .int 1, .int 0, .int 0])), (hx, .inr (10, [.ref aLa, .ref aPa, .ref aGe, .ref aFl, .ref aTr, .ref aBe, .ref aLu, .ref aLo, .ref vSf, .ref vSm, .ref vCo, .ref vSh, .int 0, .int 0, .int 0])), (vSh, .inl (cQ, 4, .inr (.inr (.inr (.inr (fSh s0 s1 s2 s3))))))] H := hP
    have hD : va_D A [(s0, .inr (8, [.ref i0, .int 1, .int 0, .int 0])), (s1, .inr (8, [.ref i1, .int 1, .int 0, .int 0])), (s2, .inr (8, [.ref i2, .int 1, .int 0, .int 0])), (s3, .inr (8, [.ref i3, .int 1, .int 0, .int 0])), (hx, .inr (10, [.ref aLa, .ref aPa, .ref aGe, .ref aFl, .ref aTr, .ref aBe, .ref aLu, .ref aLo, .ref vSf, .ref vSm, .ref vCo, .ref vSh, .int 0, .int 0, .int 0])), (vSh, .inl (cQ, 4, .inr (.inr (.inr (.inr (fSh s0 s1 s2 s3))))))] := hD
    try dsimp only at hw
    by_cases c_12 : 0 ≤ m ∧ m ≤ 2
    · rw [if_pos c_12] at hw
      refine k_topi (v := 1) hw ?_
      refine lv_if_ne (tgt := 22) hx₀ hb dX11_lay_16 (by decide) (fun _ => ?_) (fun c9 => absurd c9 (by decide +kernel))
      refine lv_aload_n hx₀ hb dX11_lay_22 rfl (lv_at hl 1 rfl) ?_
      refine lv_aload hx₀ hb dX11_lay_23 (lv_at hl 0 rfl) ?_
      refine lv_iload_n hx₀ hb dX11_lay_25 rfl (lv_at hl 3 rfl) ?_
      refine lv_iload_n hx₀ hb dX11_lay_26 rfl (lv_at hl 4 rfl) ?_
      have hPc := hP.sub (ws' := [(hx, .inr (10, [.ref aLa, .ref aPa, .ref aGe, .ref aFl, .ref aTr, .ref aBe, .ref aLu, .ref aLo, .ref vSf, .ref vSm, .ref vCo, .ref vSh, .int 0, .int 0, .int 0])), (s2, .inr (8, [.ref i2, .int 1, .int 0, .int 0]))]) [4, 2] rfl
      have hDc := hD.sub (ws' := [(hx, .inr (10, [.ref aLa, .ref aPa, .ref aGe, .ref aFl, .ref aTr, .ref aBe, .ref aLu, .ref aLo, .ref vSf, .ref vSm, .ref vCo, .ref vSh, .int 0, .int 0, .int 0])), (s2, .inr (8, [.ref i2, .int 1, .int 0, .int 0]))]) [4, 2] (by decide) rfl
      have hFc := va_free (wc := [(hx, .inr (10, [.ref aLa, .ref aPa, .ref aGe, .ref aFl, .ref aTr, .ref aBe, .ref aLu, .ref aLo, .ref vSf, .ref vSm, .ref vCo, .ref vSh, .int 0, .int 0, .int 0])), (s2, .inr (8, [.ref i2, .int 1, .int 0, .int 0]))]) hD hS hA [4, 2] rfl
      refine va_calli (va_runV (As := [.ref s2, .int m, .int i]) (rest := []) ⟨hx₀, hb, hml, hown, hts⟩ (c_refuse l dC dI cI cJ cQ H.size hx s2 m i aLa aPa aGe aFl aTr aBe aLu aLo vSf vSm vCo vSh i2) (cwV 3 hts (kGV wd_891 wd_888 wd_889 wd_890 wd_2) rfl rfl rfl (by decide +kernel) ⟨Nat.le_of_ble_eq_true rfl, Nat.le_of_ble_eq_true rfl⟩) (k_preV (ci := 10) (q0 := 0) hK hPc hDc hN rfl rfl) rfl rfl hl.1 rfl (lv_room (Nat.le_of_ble_eq_true rfl)) dX11_lay_27 ⟨by decide +kernel, by decide +kernel⟩) hS (fun q _ h => hFc q h) hFc (fun r_13 u₀ t₀ H1 locs ht hvm hw hB hz1 hk1 hS => ?_)
      obtain ⟨hP, hD⟩ := va_join (wr := [(s0, .inr (8, [.ref i0, .int 1, .int 0, .int 0])), (s1, .inr (8, [.ref i1, .int 1, .int 0, .int 0])), (s3, .inr (8, [.ref i3, .int 1, .int 0, .int 0])), (vSh, .inl (cQ, 4, .inr (.inr (.inr (.inr (fSh s0 s1 s2 s3))))))]) (w1 := []) hP hD [4, 2] [0, 1, 3, 5] rfl rfl (by decide) (by decide) hk1 hFc (k_nilP _) (k_nilD _)
      generalize H1 = H at hP hS ⊢
      have hP : va_P (dC, dI) vwCl [(s0, .inr (8, [.ref i0, .int 1, .int 0, .int 0])), (s1, .inr (8, [.ref i1, .int 1, .int 0, .int 0])), (s3, .inr (8, [.ref i3, .int 1, .int 0, .int 0])), (vSh, .inl (cQ, 4, .inr (.inr (.inr (.inr (fSh s0 s1 s2 s3))))))] H := hP
      have hD : va_D A [(s0, .inr (8, [.ref i0, .int 1, .int 0, .int 0])), (s1, .inr (8, [.ref i1, .int 1, .int 0, .int 0])), (s3, .inr (8, [.ref i3, .int 1, .int 0, .int 0])), (vSh, .inl (cQ, 4, .inr (.inr (.inr (.inr (fSh s0 s1 s2 s3))))))] := hD
      try dsimp only at hw
      refine k_topi (v := (-11)) hw ?_
      refine lv_istore (lv' := [(6, .int (-11)), (5, .ref s2), (0, .ref hx), (1, .int s), (2, .int m), (3, .int i), (4, .int v)]) hx₀ hb dX11_lay_30 hl (by decide) rfl (fun ls hl => ?_)
      refine lv_iload hx₀ hb dX11_lay_32 (lv_at hl 0 rfl) ?_
      refine lv_if_eq (tgt := 40) hx₀ hb dX11_lay_34 (by decide) (fun c9 => absurd c9 (by decide +kernel)) (fun _ => ?_)
      refine lv_iload hx₀ hb dX11_lay_37 (lv_at hl 0 rfl) ?_
      exact W.iret (v := (-11)) hx₀ hb hr (fun t₀ ht hW => ⟨⟨(-11), (), rfl, (lf_x_lay_5 s m c_2 c_6 c_10 c_12), trivial⟩, hS.F ht⟩) hS.2.2 dX11_lay_39
    rw [if_neg c_12] at hw
    refine k_topi (v := 0) hw ?_
    refine lv_if_ne (tgt := 22) hx₀ hb dX11_lay_16 (by decide) (fun c9 => absurd (by decide +kernel) c9) (fun _ => ?_)
    refine lv_bipush (v := (-2)) hx₀ hb dX11_lay_19 (by decide +kernel) ?_
    exact W.iret (v := (-2)) hx₀ hb hr (fun t₀ ht hW => ⟨⟨(-2), (), rfl, (lf_x_lay_6 s m c_2 c_6 c_10 c_12), trivial⟩, hS.F ht⟩) hS.2.2 dX11_lay_21
  rw [if_neg c_10] at hw
  by_cases c_14 : s = 3
  · rw [if_pos c_14] at hw
    subst hw
    refine W.eq (g2 := F0 m₀ 5 ls [.ref s3]) rfl ?_
    refine lv_astore (lv' := [(5, .ref s3), (0, .ref hx), (1, .int s), (2, .int m), (3, .int i), (4, .int v)]) hx₀ hb dX11_lay_5 hl (by decide) rfl (fun ls hl => ?_)
    refine lv_aload hx₀ hb dX11_lay_7 (lv_at hl 0 rfl) ?_
    refine lv_ifnull hx₀ hb dX11_lay_9 ?_
    refine lv_iload_n hx₀ hb dX11_lay_12 rfl (lv_at hl 3 rfl) ?_
    have hPc := hP.sub (ws' := []) [] rfl
    have hDc := hD.sub (ws' := []) [] (by decide) rfl
    have hFc := va_free (wc := []) hD hS hA [] rfl
    refine va_calli (va_runS (As := [.int m]) (rest := []) ⟨hx₀, hb, hml, hown, hts⟩ (c_isForm l dC dI cI cJ cQ H.size m) (va_cwS 1 hts (kGS wd_864 wd_862 wd_863 wd_2) rfl rfl rfl (by decide +kernel) ⟨Nat.le_of_ble_eq_true rfl, Nat.le_of_ble_eq_true rfl⟩) (k_preS hK hPc hDc hN) rfl rfl hl.1 rfl (lv_room (Nat.le_of_ble_eq_true rfl)) dX11_lay_13 ⟨by decide +kernel, by decide +kernel⟩) hS (fun q _ h => hFc q h) hFc (fun r_15 u₀ t₀ H1 locs ht hvm hw hB hz1 hk1 hS => ?_)
    obtain ⟨hP1, hK1, hD1⟩ := hB
    rw [ht] at hP1
    obtain ⟨hP, hD⟩ := va_join (wr := [(s0, .inr (8, [.ref i0, .int 1, .int 0, .int 0])), (s1, .inr (8, [.ref i1, .int 1, .int 0, .int 0])), (s2, .inr (8, [.ref i2, .int 1, .int 0, .int 0])), (s3, .inr (8, [.ref i3, .int 1, .int 0, .int 0])), (hx, .inr (10, [.ref aLa, .ref aPa, .ref aGe, .ref aFl, .ref aTr, .ref aBe, .ref aLu, .ref aLo, .ref vSf, .ref vSm, .ref vCo, .ref vSh, .int 0, .int 0, .int 0])), (vSh, .inl (cQ, 4, .inr (.inr (.inr (.inr (fSh s0 s1 s2 s3))))))]) (w1 := []) hP hD [] [0, 1, 2, 3, 4, 5] rfl rfl (by decide) (by decide) hk1 hFc hP1 hD1
    generalize H1 = H at hP hS ⊢
    have hP : va_P (dC, dI) vwCl [(s0, .inr (8, [.ref i0, .int 1, .int 0, .int 0])), (s1, .inr (8, [.ref i1, .int 1, .int 0, .int 0])), (s2, .inr (8, [.ref i2, .int 1, .int 0, .int 0])), (s3, .inr (8, [.ref i3, .int 1, .int 0, .int 0])), (hx, .inr (10, [.ref aLa, .ref aPa, .ref aGe, .ref aFl, .ref aTr, .ref aBe, .ref aLu, .ref aLo, .ref vSf, .ref vSm, .ref vCo, .ref vSh, .int 0, .int 0, .int 0])), (vSh, .inl (cQ, 4, .inr (.inr (.inr (.inr (fSh s0 s1 s2 s3))))))] H := hP
    have hD : va_D A [(s0, .inr (8, [.ref i0, .int 1, .int 0, .int 0])), (s1, .inr (8, [.ref i1, .int 1, .int 0, .int 0])), (s2, .inr (8, [.ref i2, .int 1, .int 0, .int 0])), (s3, .inr (8, [.ref i3, .int 1, .int 0, .int 0])), (hx, .inr (10, [.ref aLa, .ref aPa, .ref aGe, .ref aFl, .ref aTr, .ref aBe, .ref aLu, .ref aLo, .ref vSf, .ref vSm, .ref vCo, .ref vSh, .int 0, .int 0, .int 0])), (vSh, .inl (cQ, 4, .inr (.inr (.inr (.inr (fSh s0 s1 s2 s3))))))] := hD
    try dsimp only at hw
    by_cases c_16 : 0 ≤ m ∧ m ≤ 2
    · rw [if_pos c_16] at hw
      refine k_topi (v := 1) hw ?_
      refine lv_if_ne (tgt := 22) hx₀ hb dX11_lay_16 (by decide) (fun _ => ?_) (fun c9 => absurd c9 (by decide +kernel))
      refine lv_aload_n hx₀ hb dX11_lay_22 rfl (lv_at hl 1 rfl) ?_
      refine lv_aload hx₀ hb dX11_lay_23 (lv_at hl 0 rfl) ?_
      refine lv_iload_n hx₀ hb dX11_lay_25 rfl (lv_at hl 3 rfl) ?_
      refine lv_iload_n hx₀ hb dX11_lay_26 rfl (lv_at hl 4 rfl) ?_
      have hPc := hP.sub (ws' := [(hx, .inr (10, [.ref aLa, .ref aPa, .ref aGe, .ref aFl, .ref aTr, .ref aBe, .ref aLu, .ref aLo, .ref vSf, .ref vSm, .ref vCo, .ref vSh, .int 0, .int 0, .int 0])), (s3, .inr (8, [.ref i3, .int 1, .int 0, .int 0]))]) [4, 3] rfl
      have hDc := hD.sub (ws' := [(hx, .inr (10, [.ref aLa, .ref aPa, .ref aGe, .ref aFl, .ref aTr, .ref aBe, .ref aLu, .ref aLo, .ref vSf, .ref vSm, .ref vCo, .ref vSh, .int 0, .int 0, .int 0])), (s3, .inr (8, [.ref i3, .int 1, .int 0, .int 0]))]) [4, 3] (by decide) rfl
      have hFc := va_free (wc := [(hx, .inr (10, [.ref aLa, .ref aPa, .ref aGe, .ref aFl, .ref aTr, .ref aBe, .ref aLu, .ref aLo, .ref vSf, .ref vSm, .ref vCo, .ref vSh, .int 0, .int 0, .int 0])), (s3, .inr (8, [.ref i3, .int 1, .int 0, .int 0]))]) hD hS hA [4, 3] rfl
      refine va_calli (va_runV (As := [.ref s3, .int m, .int i]) (rest := []) ⟨hx₀, hb, hml, hown, hts⟩ (c_refuse l dC dI cI cJ cQ H.size hx s3 m i aLa aPa aGe aFl aTr aBe aLu aLo vSf vSm vCo vSh i3) (cwV 3 hts (kGV wd_891 wd_888 wd_889 wd_890 wd_2) rfl rfl rfl (by decide +kernel) ⟨Nat.le_of_ble_eq_true rfl, Nat.le_of_ble_eq_true rfl⟩) (k_preV (ci := 10) (q0 := 0) hK hPc hDc hN rfl rfl) rfl rfl hl.1 rfl (lv_room (Nat.le_of_ble_eq_true rfl)) dX11_lay_27 ⟨by decide +kernel, by decide +kernel⟩) hS (fun q _ h => hFc q h) hFc (fun r_17 u₀ t₀ H1 locs ht hvm hw hB hz1 hk1 hS => ?_)
      obtain ⟨hP, hD⟩ := va_join (wr := [(s0, .inr (8, [.ref i0, .int 1, .int 0, .int 0])), (s1, .inr (8, [.ref i1, .int 1, .int 0, .int 0])), (s2, .inr (8, [.ref i2, .int 1, .int 0, .int 0])), (vSh, .inl (cQ, 4, .inr (.inr (.inr (.inr (fSh s0 s1 s2 s3))))))]) (w1 := []) hP hD [4, 3] [0, 1, 2, 5] rfl rfl (by decide) (by decide) hk1 hFc (k_nilP _) (k_nilD _)
      generalize H1 = H at hP hS ⊢
      have hP : va_P (dC, dI) vwCl [(s0, .inr (8, [.ref i0, .int 1, .int 0, .int 0])), (s1, .inr (8, [.ref i1, .int 1, .int 0, .int 0])), (s2, .inr (8, [.ref i2, .int 1, .int 0, .int 0])), (vSh, .inl (cQ, 4, .inr (.inr (.inr (.inr (fSh s0 s1 s2 s3))))))] H := hP
      have hD : va_D A [(s0, .inr (8, [.ref i0, .int 1, .int 0, .int 0])), (s1, .inr (8, [.ref i1, .int 1, .int 0, .int 0])), (s2, .inr (8, [.ref i2, .int 1, .int 0, .int 0])), (vSh, .inl (cQ, 4, .inr (.inr (.inr (.inr (fSh s0 s1 s2 s3))))))] := hD
      try dsimp only at hw
      refine k_topi (v := (-11)) hw ?_
      refine lv_istore (lv' := [(6, .int (-11)), (5, .ref s3), (0, .ref hx), (1, .int s), (2, .int m), (3, .int i), (4, .int v)]) hx₀ hb dX11_lay_30 hl (by decide) rfl (fun ls hl => ?_)
      refine lv_iload hx₀ hb dX11_lay_32 (lv_at hl 0 rfl) ?_
      refine lv_if_eq (tgt := 40) hx₀ hb dX11_lay_34 (by decide) (fun c9 => absurd c9 (by decide +kernel)) (fun _ => ?_)
      refine lv_iload hx₀ hb dX11_lay_37 (lv_at hl 0 rfl) ?_
      exact W.iret (v := (-11)) hx₀ hb hr (fun t₀ ht hW => ⟨⟨(-11), (), rfl, (lf_x_lay_7 s m c_2 c_6 c_10 c_14 c_16), trivial⟩, hS.F ht⟩) hS.2.2 dX11_lay_39
    rw [if_neg c_16] at hw
    refine k_topi (v := 0) hw ?_
    refine lv_if_ne (tgt := 22) hx₀ hb dX11_lay_16 (by decide) (fun c9 => absurd (by decide +kernel) c9) (fun _ => ?_)
    refine lv_bipush (v := (-2)) hx₀ hb dX11_lay_19 (by decide +kernel) ?_
    exact W.iret (v := (-2)) hx₀ hb hr (fun t₀ ht hW => ⟨⟨(-2), (), rfl, (lf_x_lay_8 s m c_2 c_6 c_10 c_14 c_16), trivial⟩, hS.F ht⟩) hS.2.2 dX11_lay_21
  rw [if_neg c_14] at hw
  subst hw
  refine W.eq (g2 := F0 m₀ 5 ls [.null]) rfl ?_
  refine lv_astoreN (lv' := [(5, .null), (0, .ref hx), (1, .int s), (2, .int m), (3, .int i), (4, .int v)]) hx₀ hb dX11_lay_5 hl (by decide) rfl (fun ls hl => ?_)
  refine lv_aloadN hx₀ hb dX11_lay_7 (lv_at hl 0 rfl) ?_
  refine lv_ifnullN (tgt := 19) hx₀ hb dX11_lay_9 (by decide) ?_
  refine lv_bipush (v := (-2)) hx₀ hb dX11_lay_19 (by decide +kernel) ?_
  exact W.iret (v := (-2)) hx₀ hb hr (fun t₀ ht hW => ⟨⟨(-2), (), rfl, (lf_x_lay_9 s m c_2 c_6 c_10 c_14), trivial⟩, hS.F ht⟩) hS.2.2 dX11_lay_21
set_option maxHeartbeats 4000000 in
set_option maxRecDepth 100000 in
theorem x_get (l : Launch) (dC : Nat → ClassId) (dI : Nat → Nat → Nat) (cI cJ cQ : ClassId) (sz : Nat) (hx : Nat) (s : Int32) (m : Int32) (i : Int32) (aLa : Nat) (aPa : Nat) (aGe : Nat) (aFl : Nat) (aTr : Nat) (aBe : Nat) (aLu : Nat) (aLo : Nat) (vSf : Nat) (vSm : Nat) (vCo : Nat) (vSh : Nat) (s0 : Nat) (i0 : Nat) (s1 : Nat) (i1 : Nat) (s2 : Nat) (i2 : Nat) (s3 : Nat) (i3 : Nat) : Met l yX11_get (kW yX11_get cX11_get 5 (some .int)) { frames := 2, cells := 0, slots := 0, locals := 44 } (kPre dC dI cI cJ cQ sz [.ref hx, .int s, .int m, .int i] [(hx, .inr (10, [.ref aLa, .ref aPa, .ref aGe, .ref aFl, .ref aTr, .ref aBe, .ref aLu, .ref aLo, .ref vSf, .ref vSm, .ref vCo, .ref vSh, .int 0, .int 0, .int 0])), (vSh, .inl (cQ, 4, .inr (.inr (.inr (.inr (fSh s0 s1 s2 s3)))))), (s0, .inr (8, [.ref i0, .int 1, .int 0, .int 0])), (s1, .inr (8, [.ref i1, .int 1, .int 0, .int 0])), (s2, .inr (8, [.ref i2, .int 1, .int 0, .int 0])), (s3, .inr (8, [.ref i3, .int 1, .int 0, .int 0]))]) (va_Qi (fun (r : Int32) (_ : Unit) => r = (-2147483648)) (fun _ _ => True) (va_A [(hx, .inr (10, [.ref aLa, .ref aPa, .ref aGe, .ref aFl, .ref aTr, .ref aBe, .ref aLu, .ref aLo, .ref vSf, .ref vSm, .ref vCo, .ref vSh, .int 0, .int 0, .int 0])), (vSh, .inl (cQ, 4, .inr (.inr (.inr (.inr (fSh s0 s1 s2 s3)))))), (s0, .inr (8, [.ref i0, .int 1, .int 0, .int 0])), (s1, .inr (8, [.ref i1, .int 1, .int 0, .int 0])), (s2, .inr (8, [.ref i2, .int 1, .int 0, .int 0])), (s3, .inr (8, [.ref i3, .int 1, .int 0, .int 0]))] sz)) 0 0 (va_A [(hx, .inr (10, [.ref aLa, .ref aPa, .ref aGe, .ref aFl, .ref aTr, .ref aBe, .ref aLu, .ref aLo, .ref vSf, .ref vSm, .ref vCo, .ref vSh, .int 0, .int 0, .int 0])), (vSh, .inl (cQ, 4, .inr (.inr (.inr (.inr (fSh s0 s1 s2 s3)))))), (s0, .inr (8, [.ref i0, .int 1, .int 0, .int 0])), (s1, .inr (8, [.ref i1, .int 1, .int 0, .int 0])), (s2, .inr (8, [.ref i2, .int 1, .int 0, .int 0])), (s3, .inr (8, [.ref i3, .int 1, .int 0, .int 0]))] sz) := by
  refine Met.ofW (cc := cX11_get) (maxL := 5) (ret := (some .int)) (by decide) rfl ?_
  intro p₀ e₀ s₀ m₀ args below meth c₀ s₁ B hml hv₀
  obtain ⟨rfl, hsz, hP, hK, hD0, hN⟩ := hv₀
  have hx₀ := B.exec
  have hb := B.bytes
  have hr := B.returns
  have hts := atoms_spec (ws := (kW yX11_get cX11_get 5 (some .int))) B.pre
  have hts := fun w h => hts w (List.mem_cons_of_mem _ h)
  have hown : s₀.vm.findClass RX11 = some m₀.cls := findClass_of_methodNamed B.named
  have hlocks := B.notSynchronized
  subst hsz
  have hD := hD0.self (sz := s₀.heap.size)
  generalize hAe : va_A [(hx, .inr (10, [.ref aLa, .ref aPa, .ref aGe, .ref aFl, .ref aTr, .ref aBe, .ref aLu, .ref aLo, .ref vSf, .ref vSm, .ref vCo, .ref vSh, .int 0, .int 0, .int 0])), (vSh, .inl (cQ, 4, .inr (.inr (.inr (.inr (fSh s0 s1 s2 s3)))))), (s0, .inr (8, [.ref i0, .int 1, .int 0, .int 0])), (s1, .inr (8, [.ref i1, .int 1, .int 0, .int 0])), (s2, .inr (8, [.ref i2, .int 1, .int 0, .int 0])), (s3, .inr (8, [.ref i3, .int 1, .int 0, .int 0]))] s₀.heap.size = A at hD ⊢
  have hA : ∀ q : Nat, s₀.heap.size ≤ q → A q := fun q h => by rw [← hAe]; exact Or.inr h
  have hS : va_S A s₀.heap s₀.heap [] := va_S.rf
  have hP : va_P (dC, dI) vwCl [(hx, .inr (10, [.ref aLa, .ref aPa, .ref aGe, .ref aFl, .ref aTr, .ref aBe, .ref aLu, .ref aLo, .ref vSf, .ref vSm, .ref vCo, .ref vSh, .int 0, .int 0, .int 0])), (vSh, .inl (cQ, 4, .inr (.inr (.inr (.inr (fSh s0 s1 s2 s3)))))), (s0, .inr (8, [.ref i0, .int 1, .int 0, .int 0])), (s1, .inr (8, [.ref i1, .int 1, .int 0, .int 0])), (s2, .inr (8, [.ref i2, .int 1, .int 0, .int 0])), (s3, .inr (8, [.ref i3, .int 1, .int 0, .int 0]))] s₀.heap := hP
  have hl := lv_entry ([.ref hx, .int s, .int m, .int i]) (n := 5) (Nat.le_of_ble_eq_true rfl)
  rw [lg_entry_eq]
  generalize (lg_sl ([.ref hx, .int s, .int m, .int i]) ++ List.replicate (5 - (lg_sl ([.ref hx, .int s, .int m, .int i])).length) Slot.unset).toArray = ls at hl ⊢
  have hl : lv_has ls 5 [(0, .ref hx), (1, .int s), (2, .int m), (3, .int i)] := hl
  obtain ⟨H, hH⟩ : ∃ z : Heap, z = s₀.heap := ⟨_, rfl⟩
  rw [← hH] at hP
  have hS : va_S A s₀.heap H [] := by rw [hH]; exact hS
  refine k_heap hH ?_
  have hD : va_D A [(hx, .inr (10, [.ref aLa, .ref aPa, .ref aGe, .ref aFl, .ref aTr, .ref aBe, .ref aLu, .ref aLo, .ref vSf, .ref vSm, .ref vCo, .ref vSh, .int 0, .int 0, .int 0])), (vSh, .inl (cQ, 4, .inr (.inr (.inr (.inr (fSh s0 s1 s2 s3)))))), (s0, .inr (8, [.ref i0, .int 1, .int 0, .int 0])), (s1, .inr (8, [.ref i1, .int 1, .int 0, .int 0])), (s2, .inr (8, [.ref i2, .int 1, .int 0, .int 0])), (s3, .inr (8, [.ref i3, .int 1, .int 0, .int 0]))] := hD
  obtain ⟨locs, hlo⟩ : ∃ z : List Loc, z = [] := ⟨_, rfl⟩
  rw [← hlo] at hS ⊢
  clear hlo hH hAe hD0
  refine lv_aload_n hx₀ hb dX11_get_0 rfl (lv_at hl 0 rfl) ?_
  refine lv_iload_n hx₀ hb dX11_get_1 rfl (lv_at hl 1 rfl) ?_
  have hPc := hP.sub (ws' := [(hx, .inr (10, [.ref aLa, .ref aPa, .ref aGe, .ref aFl, .ref aTr, .ref aBe, .ref aLu, .ref aLo, .ref vSf, .ref vSm, .ref vCo, .ref vSh, .int 0, .int 0, .int 0])), (vSh, .inl (cQ, 4, .inr (.inr (.inr (.inr (fSh s0 s1 s2 s3))))))]) [0, 1] rfl
  have hDc := hD.sub (ws' := [(hx, .inr (10, [.ref aLa, .ref aPa, .ref aGe, .ref aFl, .ref aTr, .ref aBe, .ref aLu, .ref aLo, .ref vSf, .ref vSm, .ref vCo, .ref vSh, .int 0, .int 0, .int 0])), (vSh, .inl (cQ, 4, .inr (.inr (.inr (.inr (fSh s0 s1 s2 s3))))))]) [0, 1] (by decide) rfl
  have hFc := va_free (wc := [(hx, .inr (10, [.ref aLa, .ref aPa, .ref aGe, .ref aFl, .ref aTr, .ref aBe, .ref aLu, .ref aLo, .ref vSf, .ref vSm, .ref vCo, .ref vSh, .int 0, .int 0, .int 0])), (vSh, .inl (cQ, 4, .inr (.inr (.inr (.inr (fSh s0 s1 s2 s3))))))]) hD hS hA [0, 1] rfl
  refine va_callq (va_runV (As := [.int s]) (rest := []) ⟨hx₀, hb, hml, hown, hts⟩ (c_sheetOf l dC dI cI cJ cQ H.size hx s aLa aPa aGe aFl aTr aBe aLu aLo vSf vSm vCo vSh s0 s1 s2 s3) (cwV 1 hts (kGV wd_383 wd_380 wd_381 wd_382 wd_2) rfl rfl rfl (by decide +kernel) ⟨Nat.le_of_ble_eq_true rfl, Nat.le_of_ble_eq_true rfl⟩) (k_preV (ci := 10) (q0 := 0) hK hPc hDc hN rfl rfl) rfl rfl hl.1 rfl (lv_room (Nat.le_of_ble_eq_true rfl)) dX11_get_2 ⟨by decide +kernel, by decide +kernel⟩) hS (fun q _ h => hFc q h) hFc (fun r_1 u₀ t₀ H1 locs ht hvm hw hB hz1 hk1 hS => ?_)
  obtain ⟨hP1, hK1, hD1⟩ := hB
  rw [ht] at hP1
  obtain ⟨hP, hD⟩ := va_join (wr := [(s0, .inr (8, [.ref i0, .int 1, .int 0, .int 0])), (s1, .inr (8, [.ref i1, .int 1, .int 0, .int 0])), (s2, .inr (8, [.ref i2, .int 1, .int 0, .int 0])), (s3, .inr (8, [.ref i3, .int 1, .int 0, .int 0]))]) (w1 := [(hx, .inr (10, [.ref aLa, .ref aPa, .ref aGe, .ref aFl, .ref aTr, .ref aBe, .ref aLu, .ref aLo, .ref vSf, .ref vSm, .ref vCo, .ref vSh, .int 0, .int 0, .int 0])), (vSh, .inl (cQ, 4, .inr (.inr (.inr (.inr (fSh s0 s1 s2 s3))))))]) hP hD [0, 1] [2, 3, 4, 5] rfl rfl (by decide) (by decide) hk1 hFc hP1 hD1
  generalize H1 = H at hP hS ⊢
  have hP : va_P (dC, dI) vwCl [(s0, .inr (8, [.ref i0, .int 1, .int 0, .int 0])), (s1, .inr (8, [.ref i1, .int 1, .int 0, .int 0])), (s2, .inr (8, [.ref i2, .int 1, .int 0, .int 0])), (s3, .inr (8, [.ref i3, .int 1, .int 0, .int 0])), (hx, .inr (10, [.ref aLa, .ref aPa, .ref aGe, .ref aFl, .ref aTr, .ref aBe, .ref aLu, .ref aLo, .ref vSf, .ref vSm, .ref vCo, .ref vSh, .int 0, .int 0, .int 0])), (vSh, .inl (cQ, 4, .inr (.inr (.inr (.inr (fSh s0 s1 s2 s3))))))] H := hP
  have hD : va_D A [(s0, .inr (8, [.ref i0, .int 1, .int 0, .int 0])), (s1, .inr (8, [.ref i1, .int 1, .int 0, .int 0])), (s2, .inr (8, [.ref i2, .int 1, .int 0, .int 0])), (s3, .inr (8, [.ref i3, .int 1, .int 0, .int 0])), (hx, .inr (10, [.ref aLa, .ref aPa, .ref aGe, .ref aFl, .ref aTr, .ref aBe, .ref aLu, .ref aLo, .ref vSf, .ref vSm, .ref vCo, .ref vSh, .int 0, .int 0, .int 0])), (vSh, .inl (cQ, 4, .inr (.inr (.inr (.inr (fSh s0 s1 s2 s3))))))] := hD
  try dsimp only at hw
  by_cases c_2 : s = 0
  · rw [if_pos c_2] at hw
    subst hw
    refine W.eq (g2 := F0 m₀ 5 ls [.ref s0]) rfl ?_
    refine lv_astore (lv' := [(4, .ref s0), (0, .ref hx), (1, .int s), (2, .int m), (3, .int i)]) hx₀ hb dX11_get_5 hl (by decide) rfl (fun ls hl => ?_)
    refine lv_aload hx₀ hb dX11_get_7 (lv_at hl 0 rfl) ?_
    refine lv_ifnull hx₀ hb dX11_get_9 ?_
    refine lv_iload_n hx₀ hb dX11_get_12 rfl (lv_at hl 3 rfl) ?_
    have hPc := hP.sub (ws' := []) [] rfl
    have hDc := hD.sub (ws' := []) [] (by decide) rfl
    have hFc := va_free (wc := []) hD hS hA [] rfl
    refine va_calli (va_runS (As := [.int m]) (rest := []) ⟨hx₀, hb, hml, hown, hts⟩ (c_isForm l dC dI cI cJ cQ H.size m) (va_cwS 1 hts (kGS wd_864 wd_862 wd_863 wd_2) rfl rfl rfl (by decide +kernel) ⟨Nat.le_of_ble_eq_true rfl, Nat.le_of_ble_eq_true rfl⟩) (k_preS hK hPc hDc hN) rfl rfl hl.1 rfl (lv_room (Nat.le_of_ble_eq_true rfl)) dX11_get_13 ⟨by decide +kernel, by decide +kernel⟩) hS (fun q _ h => hFc q h) hFc (fun r_3 u₀ t₀ H1 locs ht hvm hw hB hz1 hk1 hS => ?_)
    obtain ⟨hP1, hK1, hD1⟩ := hB
    rw [ht] at hP1
    obtain ⟨hP, hD⟩ := va_join (wr := [(s0, .inr (8, [.ref i0, .int 1, .int 0, .int 0])), (s1, .inr (8, [.ref i1, .int 1, .int 0, .int 0])), (s2, .inr (8, [.ref i2, .int 1, .int 0, .int 0])), (s3, .inr (8, [.ref i3, .int 1, .int 0, .int 0])), (hx, .inr (10, [.ref aLa, .ref aPa, .ref aGe, .ref aFl, .ref aTr, .ref aBe, .ref aLu, .ref aLo, .ref vSf, .ref vSm, .ref vCo, .ref vSh, .int 0, .int 0, .int 0])), (vSh, .inl (cQ, 4, .inr (.inr (.inr (.inr (fSh s0 s1 s2 s3))))))]) (w1 := []) hP hD [] [0, 1, 2, 3, 4, 5] rfl rfl (by decide) (by decide) hk1 hFc hP1 hD1
    generalize H1 = H at hP hS ⊢
    have hP : va_P (dC, dI) vwCl [(s0, .inr (8, [.ref i0, .int 1, .int 0, .int 0])), (s1, .inr (8, [.ref i1, .int 1, .int 0, .int 0])), (s2, .inr (8, [.ref i2, .int 1, .int 0, .int 0])), (s3, .inr (8, [.ref i3, .int 1, .int 0, .int 0])), (hx, .inr (10, [.ref aLa, .ref aPa, .ref aGe, .ref aFl, .ref aTr, .ref aBe, .ref aLu, .ref aLo, .ref vSf, .ref vSm, .ref vCo, .ref vSh, .int 0, .int 0, .int 0])), (vSh, .inl (cQ, 4, .inr (.inr (.inr (.inr (fSh s0 s1 s2 s3))))))] H := hP
    have hD : va_D A [(s0, .inr (8, [.ref i0, .int 1, .int 0, .int 0])), (s1, .inr (8, [.ref i1, .int 1, .int 0, .int 0])), (s2, .inr (8, [.ref i2, .int 1, .int 0, .int 0])), (s3, .inr (8, [.ref i3, .int 1, .int 0, .int 0])), (hx, .inr (10, [.ref aLa, .ref aPa, .ref aGe, .ref aFl, .ref aTr, .ref aBe, .ref aLu, .ref aLo, .ref vSf, .ref vSm, .ref vCo, .ref vSh, .int 0, .int 0, .int 0])), (vSh, .inl (cQ, 4, .inr (.inr (.inr (.inr (fSh s0 s1 s2 s3))))))] := hD
    try dsimp only at hw
    by_cases c_4 : 0 ≤ m ∧ m ≤ 2
    · rw [if_pos c_4] at hw
      refine k_topi (v := 1) hw ?_
      refine lv_if_eq (tgt := 30) hx₀ hb dX11_get_16 (by decide) (fun c9 => absurd c9 (by decide +kernel)) (fun _ => ?_)
      refine lv_aload_n hx₀ hb dX11_get_19 rfl (lv_at hl 1 rfl) ?_
      refine lv_aload hx₀ hb dX11_get_20 (lv_at hl 0 rfl) ?_
      refine lv_iload_n hx₀ hb dX11_get_22 rfl (lv_at hl 3 rfl) ?_
      refine lv_iload_n hx₀ hb dX11_get_23 rfl (lv_at hl 4 rfl) ?_
      have hPc := hP.sub (ws' := [(hx, .inr (10, [.ref aLa, .ref aPa, .ref aGe, .ref aFl, .ref aTr, .ref aBe, .ref aLu, .ref aLo, .ref vSf, .ref vSm, .ref vCo, .ref vSh, .int 0, .int 0, .int 0])), (s0, .inr (8, [.ref i0, .int 1, .int 0, .int 0]))]) [4, 0] rfl
      have hDc := hD.sub (ws' := [(hx, .inr (10, [.ref aLa, .ref aPa, .ref aGe, .ref aFl, .ref aTr, .ref aBe, .ref aLu, .ref aLo, .ref vSf, .ref vSm, .ref vCo, .ref vSh, .int 0, .int 0, .int 0])), (s0, .inr (8, [.ref i0, .int 1, .int 0, .int 0]))]) [4, 0] (by decide) rfl
      have hFc := va_free (wc := [(hx, .inr (10, [.ref aLa, .ref aPa, .ref aGe, .ref aFl, .ref aTr, .ref aBe, .ref aLu, .ref aLo, .ref vSf, .ref vSm, .ref vCo, .ref vSh, .int 0, .int 0, .int 0])), (s0, .inr (8, [.ref i0, .int 1, .int 0, .int 0]))]) hD hS hA [4, 0] rfl
      refine va_calli (va_runV (As := [.ref s0, .int m, .int i]) (rest := []) ⟨hx₀, hb, hml, hown, hts⟩ (c_refuse l dC dI cI cJ cQ H.size hx s0 m i aLa aPa aGe aFl aTr aBe aLu aLo vSf vSm vCo vSh i0) (cwV 3 hts (kGV wd_891 wd_888 wd_889 wd_890 wd_2) rfl rfl rfl (by decide +kernel) ⟨Nat.le_of_ble_eq_true rfl, Nat.le_of_ble_eq_true rfl⟩) (k_preV (ci := 10) (q0 := 0) hK hPc hDc hN rfl rfl) rfl rfl hl.1 rfl (lv_room (Nat.le_of_ble_eq_true rfl)) dX11_get_24 ⟨by decide +kernel, by decide +kernel⟩) hS (fun q _ h => hFc q h) hFc (fun r_5 u₀ t₀ H1 locs ht hvm hw hB hz1 hk1 hS => ?_)
      obtain ⟨hP, hD⟩ := va_join (wr := [(s1, .inr (8, [.ref i1, .int 1, .int 0, .int 0])), (s2, .inr (8, [.ref i2, .int 1, .int 0, .int 0])), (s3, .inr (8, [.ref i3, .int 1, .int 0, .int 0])), (vSh, .inl (cQ, 4, .inr (.inr (.inr (.inr (fSh s0 s1 s2 s3))))))]) (w1 := []) hP hD [4, 0] [1, 2, 3, 5] rfl rfl (by decide) (by decide) hk1 hFc (k_nilP _) (k_nilD _)
      generalize H1 = H at hP hS ⊢
      have hP : va_P (dC, dI) vwCl [(s1, .inr (8, [.ref i1, .int 1, .int 0, .int 0])), (s2, .inr (8, [.ref i2, .int 1, .int 0, .int 0])), (s3, .inr (8, [.ref i3, .int 1, .int 0, .int 0])), (vSh, .inl (cQ, 4, .inr (.inr (.inr (.inr (fSh s0 s1 s2 s3))))))] H := hP
      have hD : va_D A [(s1, .inr (8, [.ref i1, .int 1, .int 0, .int 0])), (s2, .inr (8, [.ref i2, .int 1, .int 0, .int 0])), (s3, .inr (8, [.ref i3, .int 1, .int 0, .int 0])), (vSh, .inl (cQ, 4, .inr (.inr (.inr (.inr (fSh s0 s1 s2 s3))))))] := hD
      try dsimp only at hw
      refine k_topi (v := (-11)) hw ?_
      refine lv_if_eq (tgt := 33) hx₀ hb dX11_get_27 (by decide) (fun c9 => absurd c9 (by decide +kernel)) (fun _ => ?_)
      refine lv_ldc (v := (-2147483648)) hx₀ hb hown (hts (.constant RX11 244 (-2147483648)) wd_916) dX11_get_30 ?_
      exact W.iret (v := (-2147483648)) hx₀ hb hr (fun t₀ ht hW => ⟨⟨(-2147483648), (), rfl, rfl, trivial⟩, hS.F ht⟩) hS.2.2 dX11_get_32
    rw [if_neg c_4] at hw
    refine k_topi (v := 0) hw ?_
    refine lv_if_eq (tgt := 30) hx₀ hb dX11_get_16 (by decide) (fun _ => ?_) (fun c9 => absurd (by decide +kernel) c9)
    refine lv_ldc (v := (-2147483648)) hx₀ hb hown (hts (.constant RX11 244 (-2147483648)) wd_916) dX11_get_30 ?_
    exact W.iret (v := (-2147483648)) hx₀ hb hr (fun t₀ ht hW => ⟨⟨(-2147483648), (), rfl, rfl, trivial⟩, hS.F ht⟩) hS.2.2 dX11_get_32
  rw [if_neg c_2] at hw
  by_cases c_6 : s = 1
  · rw [if_pos c_6] at hw
    subst hw
    refine W.eq (g2 := F0 m₀ 5 ls [.ref s1]) rfl ?_
    refine lv_astore (lv' := [(4, .ref s1), (0, .ref hx), (1, .int s), (2, .int m), (3, .int i)]) hx₀ hb dX11_get_5 hl (by decide) rfl (fun ls hl => ?_)
    refine lv_aload hx₀ hb dX11_get_7 (lv_at hl 0 rfl) ?_
    refine lv_ifnull hx₀ hb dX11_get_9 ?_
    refine lv_iload_n hx₀ hb dX11_get_12 rfl (lv_at hl 3 rfl) ?_
    have hPc := hP.sub (ws' := []) [] rfl
    have hDc := hD.sub (ws' := []) [] (by decide) rfl
    have hFc := va_free (wc := []) hD hS hA [] rfl
    refine va_calli (va_runS (As := [.int m]) (rest := []) ⟨hx₀, hb, hml, hown, hts⟩ (c_isForm l dC dI cI cJ cQ H.size m) (va_cwS 1 hts (kGS wd_864 wd_862 wd_863 wd_2) rfl rfl rfl (by decide +kernel) ⟨Nat.le_of_ble_eq_true rfl, Nat.le_of_ble_eq_true rfl⟩) (k_preS hK hPc hDc hN) rfl rfl hl.1 rfl (lv_room (Nat.le_of_ble_eq_true rfl)) dX11_get_13 ⟨by decide +kernel, by decide +kernel⟩) hS (fun q _ h => hFc q h) hFc (fun r_7 u₀ t₀ H1 locs ht hvm hw hB hz1 hk1 hS => ?_)
    obtain ⟨hP1, hK1, hD1⟩ := hB
    rw [ht] at hP1
    obtain ⟨hP, hD⟩ := va_join (wr := [(s0, .inr (8, [.ref i0, .int 1, .int 0, .int 0])), (s1, .inr (8, [.ref i1, .int 1, .int 0, .int 0])), (s2, .inr (8, [.ref i2, .int 1, .int 0, .int 0])), (s3, .inr (8, [.ref i3, .int 1, .int 0, .int 0])), (hx, .inr (10, [.ref aLa, .ref aPa, .ref aGe, .ref aFl, .ref aTr, .ref aBe, .ref aLu, .ref aLo, .ref vSf, .ref vSm, .ref vCo, .ref vSh, .int 0, .int 0, .int 0])), (vSh, .inl (cQ, 4, .inr (.inr (.inr (.inr (fSh s0 s1 s2 s3))))))]) (w1 := []) hP hD [] [0, 1, 2, 3, 4, 5] rfl rfl (by decide) (by decide) hk1 hFc hP1 hD1
    generalize H1 = H at hP hS ⊢
    have hP : va_P (dC, dI) vwCl [(s0, .inr (8, [.ref i0, .int 1, .int 0, .int 0])), (s1, .inr (8, [.ref i1, .int 1, .int 0, .int 0])), (s2, .inr (8, [.ref i2, .int 1, .int 0, .int 0])), (s3, .inr (8, [.ref i3, .int 1, .int 0, .int 0])), (hx, .inr (10, [.ref aLa, .ref aPa, .ref aGe, .ref aFl, .ref aTr, .ref aBe, .ref aLu, .ref aLo, .ref vSf, .ref vSm, .ref vCo, .ref vSh, .int 0, .int 0, .int 0])), (vSh, .inl (cQ, 4, .inr (.inr (.inr (.inr (fSh s0 s1 s2 s3))))))] H := hP
    have hD : va_D A [(s0, .inr (8, [.ref i0, .int 1, .int 0, .int 0])), (s1, .inr (8, [.ref i1, .int 1, .int 0, .int 0])), (s2, .inr (8, [.ref i2, .int 1, .int 0, .int 0])), (s3, .inr (8, [.ref i3, .int 1, .int 0, .int 0])), (hx, .inr (10, [.ref aLa, .ref aPa, .ref aGe, .ref aFl, .ref aTr, .ref aBe, .ref aLu, .ref aLo, .ref vSf, .ref vSm, .ref vCo, .ref vSh, .int 0, .int 0, .int 0])), (vSh, .inl (cQ, 4, .inr (.inr (.inr (.inr (fSh s0 s1 s2 s3))))))] := hD
    try dsimp only at hw
    by_cases c_8 : 0 ≤ m ∧ m ≤ 2
    · rw [if_pos c_8] at hw
      refine k_topi (v := 1) hw ?_
      refine lv_if_eq (tgt := 30) hx₀ hb dX11_get_16 (by decide) (fun c9 => absurd c9 (by decide +kernel)) (fun _ => ?_)
      refine lv_aload_n hx₀ hb dX11_get_19 rfl (lv_at hl 1 rfl) ?_
      refine lv_aload hx₀ hb dX11_get_20 (lv_at hl 0 rfl) ?_
      refine lv_iload_n hx₀ hb dX11_get_22 rfl (lv_at hl 3 rfl) ?_
      refine lv_iload_n hx₀ hb dX11_get_23 rfl (lv_at hl 4 rfl) ?_
      have hPc := hP.sub (ws' := [(hx, .inr (10, [.ref aLa, .ref aPa, .ref aGe, .ref aFl, .ref aTr, .ref aBe, .ref aLu, .ref aLo, .ref vSf, .ref vSm, .ref vCo, .ref vSh, .int 0, .int 0, .int 0])), (s1, .inr (8, [.ref i1, .int 1, .int 0, .int 0]))]) [4, 1] rfl
      have hDc := hD.sub (ws' := [(hx, .inr (10, [.ref aLa, .ref aPa, .ref aGe, .ref aFl, .ref aTr, .ref aBe, .ref aLu, .ref aLo, .ref vSf, .ref vSm, .ref vCo, .ref vSh, .int 0, .int 0, .int 0])), (s1, .inr (8, [.ref i1, .int 1, .int 0, .int 0]))]) [4, 1] (by decide) rfl
      have hFc := va_free (wc := [(hx, .inr (10, [.ref aLa, .ref aPa, .ref aGe, .ref aFl, .ref aTr, .ref aBe, .ref aLu, .ref aLo, .ref vSf, .ref vSm, .ref vCo, .ref vSh, .int 0, .int 0, .int 0])), (s1, .inr (8, [.ref i1, .int 1, .int 0, .int 0]))]) hD hS hA [4, 1] rfl
      refine va_calli (va_runV (As := [.ref s1, .int m, .int i]) (rest := []) ⟨hx₀, hb, hml, hown, hts⟩ (c_refuse l dC dI cI cJ cQ H.size hx s1 m i aLa aPa aGe aFl aTr aBe aLu aLo vSf vSm vCo vSh i1) (cwV 3 hts (kGV wd_891 wd_888 wd_889 wd_890 wd_2) rfl rfl rfl (by decide +kernel) ⟨Nat.le_of_ble_eq_true rfl, Nat.le_of_ble_eq_true rfl⟩) (k_preV (ci := 10) (q0 := 0) hK hPc hDc hN rfl rfl) rfl rfl hl.1 rfl (lv_room (Nat.le_of_ble_eq_true rfl)) dX11_get_24 ⟨by decide +kernel, by decide +kernel⟩) hS (fun q _ h => hFc q h) hFc (fun r_9 u₀ t₀ H1 locs ht hvm hw hB hz1 hk1 hS => ?_)
      obtain ⟨hP, hD⟩ := va_join (wr := [(s0, .inr (8, [.ref i0, .int 1, .int 0, .int 0])), (s2, .inr (8, [.ref i2, .int 1, .int 0, .int 0])), (s3, .inr (8, [.ref i3, .int 1, .int 0, .int 0])), (vSh, .inl (cQ, 4, .inr (.inr (.inr (.inr (fSh s0 s1 s2 s3))))))]) (w1 := []) hP hD [4, 1] [0, 2, 3, 5] rfl rfl (by decide) (by decide) hk1 hFc (k_nilP _) (k_nilD _)
      generalize H1 = H at hP hS ⊢
      have hP : va_P (dC, dI) vwCl [(s0, .inr (8, [.ref i0, .int 1, .int 0, .int 0])), (s2, .inr (8, [.ref i2, .int 1, .int 0, .int 0])), (s3, .inr (8, [.ref i3, .int 1, .int 0, .int 0])), (vSh, .inl (cQ, 4, .inr (.inr (.inr (.inr (fSh s0 s1 s2 s3))))))] H := hP
      have hD : va_D A [(s0, .inr (8, [.ref i0, .int 1, .int 0, .int 0])), (s2, .inr (8, [.ref i2, .int 1, .int 0, .int 0])), (s3, .inr (8, [.ref i3, .int 1, .int 0, .int 0])), (vSh, .inl (cQ, 4, .inr (.inr (.inr (.inr (fSh s0 s1 s2 s3))))))] := hD
      try dsimp only at hw
      refine k_topi (v := (-11)) hw ?_
      refine lv_if_eq (tgt := 33) hx₀ hb dX11_get_27 (by decide) (fun c9 => absurd c9 (by decide +kernel)) (fun _ => ?_)
      refine lv_ldc (v := (-2147483648)) hx₀ hb hown (hts (.constant RX11 244 (-2147483648)) wd_916) dX11_get_30 ?_
      exact W.iret (v := (-2147483648)) hx₀ hb hr (fun t₀ ht hW => ⟨⟨(-2147483648), (), rfl, rfl, trivial⟩, hS.F ht⟩) hS.2.2 dX11_get_32
    rw [if_neg c_8] at hw
    refine k_topi (v := 0) hw ?_
    refine lv_if_eq (tgt := 30) hx₀ hb dX11_get_16 (by decide) (fun _ => ?_) (fun c9 => absurd (by decide +kernel) c9)
    refine lv_ldc (v := (-2147483648)) hx₀ hb hown (hts (.constant RX11 244 (-2147483648)) wd_916) dX11_get_30 ?_
    exact W.iret (v := (-2147483648)) hx₀ hb hr (fun t₀ ht hW => ⟨⟨(-2147483648), (), rfl, rfl, trivial⟩, hS.F ht⟩) hS.2.2 dX11_get_32
  rw [if_neg c_6] at hw
  by_cases c_10 : s = 2
  · rw [if_pos c_10] at hw
    subst hw
    refine W.eq (g2 := F0 m₀ 5 ls [.ref s2]) rfl ?_
    refine lv_astore (lv' := [(4, .ref s2), (0, .ref hx), (1, .int s), (2, .int m), (3, .int i)]) hx₀ hb dX11_get_5 hl (by decide) rfl (fun ls hl => ?_)
    refine lv_aload hx₀ hb dX11_get_7 (lv_at hl 0 rfl) ?_
    refine lv_ifnull hx₀ hb dX11_get_9 ?_
    refine lv_iload_n hx₀ hb dX11_get_12 rfl (lv_at hl 3 rfl) ?_
    have hPc := hP.sub (ws' := []) [] rfl
    have hDc := hD.sub (ws' := []) [] (by decide) rfl
    have hFc := va_free (wc := []) hD hS hA [] rfl
    refine va_calli (va_runS (As := [.int m]) (rest := []) ⟨hx₀, hb, hml, hown, hts⟩ (c_isForm l dC dI cI cJ cQ H.size m) (va_cwS 1 hts (kGS wd_864 wd_862 wd_863 wd_2) rfl rfl rfl (by decide +kernel) ⟨Nat.le_of_ble_eq_true rfl, Nat.le_of_ble_eq_true rfl⟩) (k_preS hK hPc hDc hN) rfl rfl hl.1 rfl (lv_room (Nat.le_of_ble_eq_true rfl)) dX11_get_13 ⟨by decide +kernel, by decide +kernel⟩) hS (fun q _ h => hFc q h) hFc (fun r_11 u₀ t₀ H1 locs ht hvm hw hB hz1 hk1 hS => ?_)
    obtain ⟨hP1, hK1, hD1⟩ := hB
    rw [ht] at hP1
    obtain ⟨hP, hD⟩ := va_join (wr := [(s0, .inr (8, [.ref i0, .int 1, .int 0, .int 0])), (s1, .inr (8, [.ref i1, .int 1, .int 0, .int 0])), (s2, .inr (8, [.ref i2, .int 1, .int 0, .int 0])), (s3, .inr (8, [.ref i3, .int 1, .int 0, .int 0])), (hx, .inr (10, [.ref aLa, .ref aPa, .ref aGe, .ref aFl, .ref aTr, .ref aBe, .ref aLu, .ref aLo, .ref vSf, .ref vSm, .ref vCo, .ref vSh, .int 0, .int 0, .int 0])), (vSh, .inl (cQ, 4, .inr (.inr (.inr (.inr (fSh s0 s1 s2 s3))))))]) (w1 := []) hP hD [] [0, 1, 2, 3, 4, 5] rfl rfl (by decide) (by decide) hk1 hFc hP1 hD1
    generalize H1 = H at hP hS ⊢
    have hP : va_P (dC, dI) vwCl [(s0, .inr (8, [.ref i0, .int 1, .int 0, .int 0])), (s1, .inr (8, [.ref i1, .int 1, .int 0, .int 0])), (s2, .inr (8, [.ref i2, .int 1, .int 0, .int 0])), (s3, .inr (8, [.ref i3, .int 1, .int 0, .int 0])), (hx, .inr (10, [.ref aLa, .ref aPa, .ref aGe, .ref aFl, .ref aTr, .ref aBe, .ref aLu, .ref aLo, .ref vSf, .ref vSm, .ref vCo, .ref vSh, .int 0, .int 0, .int 0])), (vSh, .inl (cQ, 4, .inr (.inr (.inr (.inr (fSh s0 s1 s2 s3))))))] H := hP
    have hD : va_D A [(s0, .inr (8, [.ref i0, .int 1, .int 0, .int 0])), (s1, .inr (8, [.ref i1, .int 1, .int 0, .int 0])), (s2, .inr (8, [.ref i2, .int 1, .int 0, .int 0])), (s3, .inr (8, [.ref i3, .int 1, .int 0, .int 0])), (hx, .inr (10, [.ref aLa, .ref aPa, .ref aGe, .ref aFl, .ref aTr, .ref aBe, .ref aLu, .ref aLo, .ref vSf, .ref vSm, .ref vCo, .ref vSh, .int 0, .int 0, .int 0])), (vSh, .inl (cQ, 4, .inr (.inr (.inr (.inr (fSh s0 s1 s2 s3))))))] := hD
    try dsimp only at hw
    by_cases c_12 : 0 ≤ m ∧ m ≤ 2
    · rw [if_pos c_12] at hw
      refine k_topi (v := 1) hw ?_
      refine lv_if_eq (tgt := 30) hx₀ hb dX11_get_16 (by decide) (fun c9 => absurd c9 (by decide +kernel)) (fun _ => ?_)
      refine lv_aload_n hx₀ hb dX11_get_19 rfl (lv_at hl 1 rfl) ?_
      refine lv_aload hx₀ hb dX11_get_20 (lv_at hl 0 rfl) ?_
      refine lv_iload_n hx₀ hb dX11_get_22 rfl (lv_at hl 3 rfl) ?_
      refine lv_iload_n hx₀ hb dX11_get_23 rfl (lv_at hl 4 rfl) ?_
      have hPc := hP.sub (ws' := [(hx, .inr (10, [.ref aLa, .ref aPa, .ref aGe, .ref aFl, .ref aTr, .ref aBe, .ref aLu, .ref aLo, .ref vSf, .ref vSm, .ref vCo, .ref vSh, .int 0, .int 0, .int 0])), (s2, .inr (8, [.ref i2, .int 1, .int 0, .int 0]))]) [4, 2] rfl
      have hDc := hD.sub (ws' := [(hx, .inr (10, [.ref aLa, .ref aPa, .ref aGe, .ref aFl, .ref aTr, .ref aBe, .ref aLu, .ref aLo, .ref vSf, .ref vSm, .ref vCo, .ref vSh, .int 0, .int 0, .int 0])), (s2, .inr (8, [.ref i2, .int 1, .int 0, .int 0]))]) [4, 2] (by decide) rfl
      have hFc := va_free (wc := [(hx, .inr (10, [.ref aLa, .ref aPa, .ref aGe, .ref aFl, .ref aTr, .ref aBe, .ref aLu, .ref aLo, .ref vSf, .ref vSm, .ref vCo, .ref vSh, .int 0, .int 0, .int 0])), (s2, .inr (8, [.ref i2, .int 1, .int 0, .int 0]))]) hD hS hA [4, 2] rfl
      refine va_calli (va_runV (As := [.ref s2, .int m, .int i]) (rest := []) ⟨hx₀, hb, hml, hown, hts⟩ (c_refuse l dC dI cI cJ cQ H.size hx s2 m i aLa aPa aGe aFl aTr aBe aLu aLo vSf vSm vCo vSh i2) (cwV 3 hts (kGV wd_891 wd_888 wd_889 wd_890 wd_2) rfl rfl rfl (by decide +kernel) ⟨Nat.le_of_ble_eq_true rfl, Nat.le_of_ble_eq_true rfl⟩) (k_preV (ci := 10) (q0 := 0) hK hPc hDc hN rfl rfl) rfl rfl hl.1 rfl (lv_room (Nat.le_of_ble_eq_true rfl)) dX11_get_24 ⟨by decide +kernel, by decide +kernel⟩) hS (fun q _ h => hFc q h) hFc (fun r_13 u₀ t₀ H1 locs ht hvm hw hB hz1 hk1 hS => ?_)
      obtain ⟨hP, hD⟩ := va_join (wr := [(s0, .inr (8, [.ref i0, .int 1, .int 0, .int 0])), (s1, .inr (8, [.ref i1, .int 1, .int 0, .int 0])), (s3, .inr (8, [.ref i3, .int 1, .int 0, .int 0])), (vSh, .inl (cQ, 4, .inr (.inr (.inr (.inr (fSh s0 s1 s2 s3))))))]) (w1 := []) hP hD [4, 2] [0, 1, 3, 5] rfl rfl (by decide) (by decide) hk1 hFc (k_nilP _) (k_nilD _)
      generalize H1 = H at hP hS ⊢
      have hP : va_P (dC, dI) vwCl [(s0, .inr (8, [.ref i0, .int 1, .int 0, .int 0])), (s1, .inr (8, [.ref i1, .int 1, .int 0, .int 0])), (s3, .inr (8, [.ref i3, .int 1, .int 0, .int 0])), (vSh, .inl (cQ, 4, .inr (.inr (.inr (.inr (fSh s0 s1 s2 s3))))))] H := hP
      have hD : va_D A [(s0, .inr (8, [.ref i0, .int 1, .int 0, .int 0])), (s1, .inr (8, [.ref i1, .int 1, .int 0, .int 0])), (s3, .inr (8, [.ref i3, .int 1, .int 0, .int 0])), (vSh, .inl (cQ, 4, .inr (.inr (.inr (.inr (fSh s0 s1 s2 s3))))))] := hD
      try dsimp only at hw
      refine k_topi (v := (-11)) hw ?_
      refine lv_if_eq (tgt := 33) hx₀ hb dX11_get_27 (by decide) (fun c9 => absurd c9 (by decide +kernel)) (fun _ => ?_)
      refine lv_ldc (v := (-2147483648)) hx₀ hb hown (hts (.constant RX11 244 (-2147483648)) wd_916) dX11_get_30 ?_
      exact W.iret (v := (-2147483648)) hx₀ hb hr (fun t₀ ht hW => ⟨⟨(-2147483648), (), rfl, rfl, trivial⟩, hS.F ht⟩) hS.2.2 dX11_get_32
    rw [if_neg c_12] at hw
    refine k_topi (v := 0) hw ?_
    refine lv_if_eq (tgt := 30) hx₀ hb dX11_get_16 (by decide) (fun _ => ?_) (fun c9 => absurd (by decide +kernel) c9)
    refine lv_ldc (v := (-2147483648)) hx₀ hb hown (hts (.constant RX11 244 (-2147483648)) wd_916) dX11_get_30 ?_
    exact W.iret (v := (-2147483648)) hx₀ hb hr (fun t₀ ht hW => ⟨⟨(-2147483648), (), rfl, rfl, trivial⟩, hS.F ht⟩) hS.2.2 dX11_get_32
  rw [if_neg c_10] at hw
  by_cases c_14 : s = 3
  · rw [if_pos c_14] at hw
    subst hw
    refine W.eq (g2 := F0 m₀ 5 ls [.ref s3]) rfl ?_
    refine lv_astore (lv' := [(4, .ref s3), (0, .ref hx), (1, .int s), (2, .int m), (3, .int i)]) hx₀ hb dX11_get_5 hl (by decide) rfl (fun ls hl => ?_)
    refine lv_aload hx₀ hb dX11_get_7 (lv_at hl 0 rfl) ?_
    refine lv_ifnull hx₀ hb dX11_get_9 ?_
    refine lv_iload_n hx₀ hb dX11_get_12 rfl (lv_at hl 3 rfl) ?_
    have hPc := hP.sub (ws' := []) [] rfl
    have hDc := hD.sub (ws' := []) [] (by decide) rfl
    have hFc := va_free (wc := []) hD hS hA [] rfl
    refine va_calli (va_runS (As := [.int m]) (rest := []) ⟨hx₀, hb, hml, hown, hts⟩ (c_isForm l dC dI cI cJ cQ H.size m) (va_cwS 1 hts (kGS wd_864 wd_862 wd_863 wd_2) rfl rfl rfl (by decide +kernel) ⟨Nat.le_of_ble_eq_true rfl, Nat.le_of_ble_eq_true rfl⟩) (k_preS hK hPc hDc hN) rfl rfl hl.1 rfl (lv_room (Nat.le_of_ble_eq_true rfl)) dX11_get_13 ⟨by decide +kernel, by decide +kernel⟩) hS (fun q _ h => hFc q h) hFc (fun r_15 u₀ t₀ H1 locs ht hvm hw hB hz1 hk1 hS => ?_)
    obtain ⟨hP1, hK1, hD1⟩ := hB
    rw [ht] at hP1
    obtain ⟨hP, hD⟩ := va_join (wr := [(s0, .inr (8, [.ref i0, .int 1, .int 0, .int 0])), (s1, .inr (8, [.ref i1, .int 1, .int 0, .int 0])), (s2, .inr (8, [.ref i2, .int 1, .int 0, .int 0])), (s3, .inr (8, [.ref i3, .int 1, .int 0, .int 0])), (hx, .inr (10, [.ref aLa, .ref aPa, .ref aGe, .ref aFl, .ref aTr, .ref aBe, .ref aLu, .ref aLo, .ref vSf, .ref vSm, .ref vCo, .ref vSh, .int 0, .int 0, .int 0])), (vSh, .inl (cQ, 4, .inr (.inr (.inr (.inr (fSh s0 s1 s2 s3))))))]) (w1 := []) hP hD [] [0, 1, 2, 3, 4, 5] rfl rfl (by decide) (by decide) hk1 hFc hP1 hD1
    generalize H1 = H at hP hS ⊢
    have hP : va_P (dC, dI) vwCl [(s0, .inr (8, [.ref i0, .int 1, .int 0, .int 0])), (s1, .inr (8, [.ref i1, .int 1, .int 0, .int 0])), (s2, .inr (8, [.ref i2, .int 1, .int 0, .int 0])), (s3, .inr (8, [.ref i3, .int 1, .int 0, .int 0])), (hx, .inr (10, [.ref aLa, .ref aPa, .ref aGe, .ref aFl, .ref aTr, .ref aBe, .ref aLu, .ref aLo, .ref vSf, .ref vSm, .ref vCo, .ref vSh, .int 0, .int 0, .int 0])), (vSh, .inl (cQ, 4, .inr (.inr (.inr (.inr (fSh s0 s1 s2 s3))))))] H := hP
    have hD : va_D A [(s0, .inr (8, [.ref i0, .int 1, .int 0, .int 0])), (s1, .inr (8, [.ref i1, .int 1, .int 0, .int 0])), (s2, .inr (8, [.ref i2, .int 1, .int 0, .int 0])), (s3, .inr (8, [.ref i3, .int 1, .int 0, .int 0])), (hx, .inr (10, [.ref aLa, .ref aPa, .ref aGe, .ref aFl, .ref aTr, .ref aBe, .ref aLu, .ref aLo, .ref vSf, .ref vSm, .ref vCo, .ref vSh, .int 0, .int 0, .int 0])), (vSh, .inl (cQ, 4, .inr (.inr (.inr (.inr (fSh s0 s1 s2 s3))))))] := hD
    try dsimp only at hw
    by_cases c_16 : 0 ≤ m ∧ m ≤ 2
    · rw [if_pos c_16] at hw
      refine k_topi (v := 1) hw ?_
      refine lv_if_eq (tgt := 30) hx₀ hb dX11_get_16 (by decide) (fun c9 => absurd c9 (by decide +kernel)) (fun _ => ?_)
      refine lv_aload_n hx₀ hb dX11_get_19 rfl (lv_at hl 1 rfl) ?_
      refine lv_aload hx₀ hb dX11_get_20 (lv_at hl 0 rfl) ?_
      refine lv_iload_n hx₀ hb dX11_get_22 rfl (lv_at hl 3 rfl) ?_
      refine lv_iload_n hx₀ hb dX11_get_23 rfl (lv_at hl 4 rfl) ?_
      have hPc := hP.sub (ws' := [(hx, .inr (10, [.ref aLa, .ref aPa, .ref aGe, .ref aFl, .ref aTr, .ref aBe, .ref aLu, .ref aLo, .ref vSf, .ref vSm, .ref vCo, .ref vSh, .int 0, .int 0, .int 0])), (s3, .inr (8, [.ref i3, .int 1, .int 0, .int 0]))]) [4, 3] rfl
      have hDc := hD.sub (ws' := [(hx, .inr (10, [.ref aLa, .ref aPa, .ref aGe, .ref aFl, .ref aTr, .ref aBe, .ref aLu, .ref aLo, .ref vSf, .ref vSm, .ref vCo, .ref vSh, .int 0, .int 0, .int 0])), (s3, .inr (8, [.ref i3, .int 1, .int 0, .int 0]))]) [4, 3] (by decide) rfl
      have hFc := va_free (wc := [(hx, .inr (10, [.ref aLa, .ref aPa, .ref aGe, .ref aFl, .ref aTr, .ref aBe, .ref aLu, .ref aLo, .ref vSf, .ref vSm, .ref vCo, .ref vSh, .int 0, .int 0, .int 0])), (s3, .inr (8, [.ref i3, .int 1, .int 0, .int 0]))]) hD hS hA [4, 3] rfl
      refine va_calli (va_runV (As := [.ref s3, .int m, .int i]) (rest := []) ⟨hx₀, hb, hml, hown, hts⟩ (c_refuse l dC dI cI cJ cQ H.size hx s3 m i aLa aPa aGe aFl aTr aBe aLu aLo vSf vSm vCo vSh i3) (cwV 3 hts (kGV wd_891 wd_888 wd_889 wd_890 wd_2) rfl rfl rfl (by decide +kernel) ⟨Nat.le_of_ble_eq_true rfl, Nat.le_of_ble_eq_true rfl⟩) (k_preV (ci := 10) (q0 := 0) hK hPc hDc hN rfl rfl) rfl rfl hl.1 rfl (lv_room (Nat.le_of_ble_eq_true rfl)) dX11_get_24 ⟨by decide +kernel, by decide +kernel⟩) hS (fun q _ h => hFc q h) hFc (fun r_17 u₀ t₀ H1 locs ht hvm hw hB hz1 hk1 hS => ?_)
      obtain ⟨hP, hD⟩ := va_join (wr := [(s0, .inr (8, [.ref i0, .int 1, .int 0, .int 0])), (s1, .inr (8, [.ref i1, .int 1, .int 0, .int 0])), (s2, .inr (8, [.ref i2, .int 1, .int 0, .int 0])), (vSh, .inl (cQ, 4, .inr (.inr (.inr (.inr (fSh s0 s1 s2 s3))))))]) (w1 := []) hP hD [4, 3] [0, 1, 2, 5] rfl rfl (by decide) (by decide) hk1 hFc (k_nilP _) (k_nilD _)
      generalize H1 = H at hP hS ⊢
      have hP : va_P (dC, dI) vwCl [(s0, .inr (8, [.ref i0, .int 1, .int 0, .int 0])), (s1, .inr (8, [.ref i1, .int 1, .int 0, .int 0])), (s2, .inr (8, [.ref i2, .int 1, .int 0, .int 0])), (vSh, .inl (cQ, 4, .inr (.inr (.inr (.inr (fSh s0 s1 s2 s3))))))] H := hP
      have hD : va_D A [(s0, .inr (8, [.ref i0, .int 1, .int 0, .int 0])), (s1, .inr (8, [.ref i1, .int 1, .int 0, .int 0])), (s2, .inr (8, [.ref i2, .int 1, .int 0, .int 0])), (vSh, .inl (cQ, 4, .inr (.inr (.inr (.inr (fSh s0 s1 s2 s3))))))] := hD
      try dsimp only at hw
      refine k_topi (v := (-11)) hw ?_
      refine lv_if_eq (tgt := 33) hx₀ hb dX11_get_27 (by decide) (fun c9 => absurd c9 (by decide +kernel)) (fun _ => ?_)
      refine lv_ldc (v := (-2147483648)) hx₀ hb hown (hts (.constant RX11 244 (-2147483648)) wd_916) dX11_get_30 ?_
      exact W.iret (v := (-2147483648)) hx₀ hb hr (fun t₀ ht hW => ⟨⟨(-2147483648), (), rfl, rfl, trivial⟩, hS.F ht⟩) hS.2.2 dX11_get_32
    rw [if_neg c_16] at hw
    refine k_topi (v := 0) hw ?_
    refine lv_if_eq (tgt := 30) hx₀ hb dX11_get_16 (by decide) (fun _ => ?_) (fun c9 => absurd (by decide +kernel) c9)
    refine lv_ldc (v := (-2147483648)) hx₀ hb hown (hts (.constant RX11 244 (-2147483648)) wd_916) dX11_get_30 ?_
    exact W.iret (v := (-2147483648)) hx₀ hb hr (fun t₀ ht hW => ⟨⟨(-2147483648), (), rfl, rfl, trivial⟩, hS.F ht⟩) hS.2.2 dX11_get_32
  rw [if_neg c_14] at hw
  subst hw
  refine W.eq (g2 := F0 m₀ 5 ls [.null]) rfl ?_
  refine lv_astoreN (lv' := [(4, .null), (0, .ref hx), (1, .int s), (2, .int m), (3, .int i)]) hx₀ hb dX11_get_5 hl (by decide) rfl (fun ls hl => ?_)
  refine lv_aloadN hx₀ hb dX11_get_7 (lv_at hl 0 rfl) ?_
  refine lv_ifnullN (tgt := 30) hx₀ hb dX11_get_9 (by decide) ?_
  refine lv_ldc (v := (-2147483648)) hx₀ hb hown (hts (.constant RX11 244 (-2147483648)) wd_916) dX11_get_30 ?_
  exact W.iret (v := (-2147483648)) hx₀ hb hr (fun t₀ ht hW => ⟨⟨(-2147483648), (), rfl, rfl, trivial⟩, hS.F ht⟩) hS.2.2 dX11_get_32
theorem lf_x_copy_1 (s : Int32) (t : Int32) (c_2 : s = 0) (c_4 : t = 0) : ((-11) : Int32) = if 0 ≤ s ∧ s ≤ 3 ∧ 0 ≤ t ∧ t ≤ 3 then -11 else -2 := by
  repeat first | rfl | rw [if_pos (by (first | omega | (simp only [Int64.le_iff_toInt_le, Int64.lt_iff_toInt_lt, Int32.le_iff_toInt_le, Int32.lt_iff_toInt_lt, ← Int32.toInt_inj, ← Int64.toInt_inj, Int32.toInt_toInt64, (show (-11 : Int32).toInt = -11 from by decide), (show (-11 : Int64).toInt = -11 from by decide), (show (-2 : Int32).toInt = -2 from by decide), (show (-2 : Int64).toInt = -2 from by decide), (show (0 : Int32).toInt = 0 from by decide), (show (0 : Int64).toInt = 0 from by decide), (show (3 : Int32).toInt = 3 from by decide), (show (3 : Int64).toInt = 3 from by decide)] at *; omega)))] | rw [if_neg (by (first | omega | (simp only [Int64.le_iff_toInt_le, Int64.lt_iff_toInt_lt, Int32.le_iff_toInt_le, Int32.lt_iff_toInt_lt, ← Int32.toInt_inj, ← Int64.toInt_inj, Int32.toInt_toInt64, (show (-11 : Int32).toInt = -11 from by decide), (show (-11 : Int64).toInt = -11 from by decide), (show (-2 : Int32).toInt = -2 from by decide), (show (-2 : Int64).toInt = -2 from by decide), (show (0 : Int32).toInt = 0 from by decide), (show (0 : Int64).toInt = 0 from by decide), (show (3 : Int32).toInt = 3 from by decide), (show (3 : Int64).toInt = 3 from by decide)] at *; omega)))]
theorem lf_x_copy_2 (s : Int32) (t : Int32) (c_2 : s = 0) (c_4 : ¬ (t = 0)) (c_6 : t = 1) : ((-11) : Int32) = if 0 ≤ s ∧ s ≤ 3 ∧ 0 ≤ t ∧ t ≤ 3 then -11 else -2 := by
  repeat first | rfl | rw [if_pos (by (first | omega | (simp only [Int64.le_iff_toInt_le, Int64.lt_iff_toInt_lt, Int32.le_iff_toInt_le, Int32.lt_iff_toInt_lt, ← Int32.toInt_inj, ← Int64.toInt_inj, Int32.toInt_toInt64, (show (-11 : Int32).toInt = -11 from by decide), (show (-11 : Int64).toInt = -11 from by decide), (show (-2 : Int32).toInt = -2 from by decide), (show (-2 : Int64).toInt = -2 from by decide), (show (0 : Int32).toInt = 0 from by decide), (show (0 : Int64).toInt = 0 from by decide), (show (1 : Int32).toInt = 1 from by decide), (show (1 : Int64).toInt = 1 from by decide), (show (3 : Int32).toInt = 3 from by decide), (show (3 : Int64).toInt = 3 from by decide)] at *; omega)))] | rw [if_neg (by (first | omega | (simp only [Int64.le_iff_toInt_le, Int64.lt_iff_toInt_lt, Int32.le_iff_toInt_le, Int32.lt_iff_toInt_lt, ← Int32.toInt_inj, ← Int64.toInt_inj, Int32.toInt_toInt64, (show (-11 : Int32).toInt = -11 from by decide), (show (-11 : Int64).toInt = -11 from by decide), (show (-2 : Int32).toInt = -2 from by decide), (show (-2 : Int64).toInt = -2 from by decide), (show (0 : Int32).toInt = 0 from by decide), (show (0 : Int64).toInt = 0 from by decide), (show (1 : Int32).toInt = 1 from by decide), (show (1 : Int64).toInt = 1 from by decide), (show (3 : Int32).toInt = 3 from by decide), (show (3 : Int64).toInt = 3 from by decide)] at *; omega)))]
theorem lf_x_copy_3 (s : Int32) (t : Int32) (c_2 : s = 0) (c_4 : ¬ (t = 0)) (c_6 : ¬ (t = 1)) (c_8 : t = 2) : ((-11) : Int32) = if 0 ≤ s ∧ s ≤ 3 ∧ 0 ≤ t ∧ t ≤ 3 then -11 else -2 := by
  repeat first | rfl | rw [if_pos (by (first | omega | (simp only [Int64.le_iff_toInt_le, Int64.lt_iff_toInt_lt, Int32.le_iff_toInt_le, Int32.lt_iff_toInt_lt, ← Int32.toInt_inj, ← Int64.toInt_inj, Int32.toInt_toInt64, (show (-11 : Int32).toInt = -11 from by decide), (show (-11 : Int64).toInt = -11 from by decide), (show (-2 : Int32).toInt = -2 from by decide), (show (-2 : Int64).toInt = -2 from by decide), (show (0 : Int32).toInt = 0 from by decide), (show (0 : Int64).toInt = 0 from by decide), (show (1 : Int32).toInt = 1 from by decide), (show (1 : Int64).toInt = 1 from by decide), (show (2 : Int32).toInt = 2 from by decide), (show (2 : Int64).toInt = 2 from by decide), (show (3 : Int32).toInt = 3 from by decide), (show (3 : Int64).toInt = 3 from by decide)] at *; omega)))] | rw [if_neg (by (first | omega | (simp only [Int64.le_iff_toInt_le, Int64.lt_iff_toInt_lt, Int32.le_iff_toInt_le, Int32.lt_iff_toInt_lt, ← Int32.toInt_inj, ← Int64.toInt_inj, Int32.toInt_toInt64, (show (-11 : Int32).toInt = -11 from by decide), (show (-11 : Int64).toInt = -11 from by decide), (show (-2 : Int32).toInt = -2 from by decide), (show (-2 : Int64).toInt = -2 from by decide), (show (0 : Int32).toInt = 0 from by decide), (show (0 : Int64).toInt = 0 from by decide), (show (1 : Int32).toInt = 1 from by decide), (show (1 : Int64).toInt = 1 from by decide), (show (2 : Int32).toInt = 2 from by decide), (show (2 : Int64).toInt = 2 from by decide), (show (3 : Int32).toInt = 3 from by decide), (show (3 : Int64).toInt = 3 from by decide)] at *; omega)))]
theorem lf_x_copy_4 (s : Int32) (t : Int32) (c_2 : s = 0) (c_4 : ¬ (t = 0)) (c_6 : ¬ (t = 1)) (c_8 : ¬ (t = 2)) (c_10 : t = 3) : ((-11) : Int32) = if 0 ≤ s ∧ s ≤ 3 ∧ 0 ≤ t ∧ t ≤ 3 then -11 else -2 := by
  repeat first | rfl | rw [if_pos (by (first | omega | (simp only [Int64.le_iff_toInt_le, Int64.lt_iff_toInt_lt, Int32.le_iff_toInt_le, Int32.lt_iff_toInt_lt, ← Int32.toInt_inj, ← Int64.toInt_inj, Int32.toInt_toInt64, (show (-11 : Int32).toInt = -11 from by decide), (show (-11 : Int64).toInt = -11 from by decide), (show (-2 : Int32).toInt = -2 from by decide), (show (-2 : Int64).toInt = -2 from by decide), (show (0 : Int32).toInt = 0 from by decide), (show (0 : Int64).toInt = 0 from by decide), (show (1 : Int32).toInt = 1 from by decide), (show (1 : Int64).toInt = 1 from by decide), (show (2 : Int32).toInt = 2 from by decide), (show (2 : Int64).toInt = 2 from by decide), (show (3 : Int32).toInt = 3 from by decide), (show (3 : Int64).toInt = 3 from by decide)] at *; omega)))] | rw [if_neg (by (first | omega | (simp only [Int64.le_iff_toInt_le, Int64.lt_iff_toInt_lt, Int32.le_iff_toInt_le, Int32.lt_iff_toInt_lt, ← Int32.toInt_inj, ← Int64.toInt_inj, Int32.toInt_toInt64, (show (-11 : Int32).toInt = -11 from by decide), (show (-11 : Int64).toInt = -11 from by decide), (show (-2 : Int32).toInt = -2 from by decide), (show (-2 : Int64).toInt = -2 from by decide), (show (0 : Int32).toInt = 0 from by decide), (show (0 : Int64).toInt = 0 from by decide), (show (1 : Int32).toInt = 1 from by decide), (show (1 : Int64).toInt = 1 from by decide), (show (2 : Int32).toInt = 2 from by decide), (show (2 : Int64).toInt = 2 from by decide), (show (3 : Int32).toInt = 3 from by decide), (show (3 : Int64).toInt = 3 from by decide)] at *; omega)))]
theorem lf_x_copy_5 (s : Int32) (t : Int32) (c_2 : s = 0) (c_4 : ¬ (t = 0)) (c_6 : ¬ (t = 1)) (c_8 : ¬ (t = 2)) (c_10 : ¬ (t = 3)) : ((-2) : Int32) = if 0 ≤ s ∧ s ≤ 3 ∧ 0 ≤ t ∧ t ≤ 3 then -11 else -2 := by
  repeat first | rfl | rw [if_pos (by (first | omega | (simp only [Int64.le_iff_toInt_le, Int64.lt_iff_toInt_lt, Int32.le_iff_toInt_le, Int32.lt_iff_toInt_lt, ← Int32.toInt_inj, ← Int64.toInt_inj, Int32.toInt_toInt64, (show (-11 : Int32).toInt = -11 from by decide), (show (-11 : Int64).toInt = -11 from by decide), (show (-2 : Int32).toInt = -2 from by decide), (show (-2 : Int64).toInt = -2 from by decide), (show (0 : Int32).toInt = 0 from by decide), (show (0 : Int64).toInt = 0 from by decide), (show (1 : Int32).toInt = 1 from by decide), (show (1 : Int64).toInt = 1 from by decide), (show (2 : Int32).toInt = 2 from by decide), (show (2 : Int64).toInt = 2 from by decide), (show (3 : Int32).toInt = 3 from by decide), (show (3 : Int64).toInt = 3 from by decide)] at *; omega)))] | rw [if_neg (by (first | omega | (simp only [Int64.le_iff_toInt_le, Int64.lt_iff_toInt_lt, Int32.le_iff_toInt_le, Int32.lt_iff_toInt_lt, ← Int32.toInt_inj, ← Int64.toInt_inj, Int32.toInt_toInt64, (show (-11 : Int32).toInt = -11 from by decide), (show (-11 : Int64).toInt = -11 from by decide), (show (-2 : Int32).toInt = -2 from by decide), (show (-2 : Int64).toInt = -2 from by decide), (show (0 : Int32).toInt = 0 from by decide), (show (0 : Int64).toInt = 0 from by decide), (show (1 : Int32).toInt = 1 from by decide), (show (1 : Int64).toInt = 1 from by decide), (show (2 : Int32).toInt = 2 from by decide), (show (2 : Int64).toInt = 2 from by decide), (show (3 : Int32).toInt = 3 from by decide), (show (3 : Int64).toInt = 3 from by decide)] at *; omega)))]
theorem lf_x_copy_6 (s : Int32) (t : Int32) (c_2 : ¬ (s = 0)) (c_12 : s = 1) (c_14 : t = 0) : ((-11) : Int32) = if 0 ≤ s ∧ s ≤ 3 ∧ 0 ≤ t ∧ t ≤ 3 then -11 else -2 := by
  repeat first | rfl | rw [if_pos (by (first | omega | (simp only [Int64.le_iff_toInt_le, Int64.lt_iff_toInt_lt, Int32.le_iff_toInt_le, Int32.lt_iff_toInt_lt, ← Int32.toInt_inj, ← Int64.toInt_inj, Int32.toInt_toInt64, (show (-11 : Int32).toInt = -11 from by decide), (show (-11 : Int64).toInt = -11 from by decide), (show (-2 : Int32).toInt = -2 from by decide), (show (-2 : Int64).toInt = -2 from by decide), (show (0 : Int32).toInt = 0 from by decide), (show (0 : Int64).toInt = 0 from by decide), (show (1 : Int32).toInt = 1 from by decide), (show (1 : Int64).toInt = 1 from by decide), (show (3 : Int32).toInt = 3 from by decide), (show (3 : Int64).toInt = 3 from by decide)] at *; omega)))] | rw [if_neg (by (first | omega | (simp only [Int64.le_iff_toInt_le, Int64.lt_iff_toInt_lt, Int32.le_iff_toInt_le, Int32.lt_iff_toInt_lt, ← Int32.toInt_inj, ← Int64.toInt_inj, Int32.toInt_toInt64, (show (-11 : Int32).toInt = -11 from by decide), (show (-11 : Int64).toInt = -11 from by decide), (show (-2 : Int32).toInt = -2 from by decide), (show (-2 : Int64).toInt = -2 from by decide), (show (0 : Int32).toInt = 0 from by decide), (show (0 : Int64).toInt = 0 from by decide), (show (1 : Int32).toInt = 1 from by decide), (show (1 : Int64).toInt = 1 from by decide), (show (3 : Int32).toInt = 3 from by decide), (show (3 : Int64).toInt = 3 from by decide)] at *; omega)))]
theorem lf_x_copy_7 (s : Int32) (t : Int32) (c_2 : ¬ (s = 0)) (c_12 : s = 1) (c_14 : ¬ (t = 0)) (c_16 : t = 1) : ((-11) : Int32) = if 0 ≤ s ∧ s ≤ 3 ∧ 0 ≤ t ∧ t ≤ 3 then -11 else -2 := by
  repeat first | rfl | rw [if_pos (by (first | omega | (simp only [Int64.le_iff_toInt_le, Int64.lt_iff_toInt_lt, Int32.le_iff_toInt_le, Int32.lt_iff_toInt_lt, ← Int32.toInt_inj, ← Int64.toInt_inj, Int32.toInt_toInt64, (show (-11 : Int32).toInt = -11 from by decide), (show (-11 : Int64).toInt = -11 from by decide), (show (-2 : Int32).toInt = -2 from by decide), (show (-2 : Int64).toInt = -2 from by decide), (show (0 : Int32).toInt = 0 from by decide), (show (0 : Int64).toInt = 0 from by decide), (show (1 : Int32).toInt = 1 from by decide), (show (1 : Int64).toInt = 1 from by decide), (show (3 : Int32).toInt = 3 from by decide), (show (3 : Int64).toInt = 3 from by decide)] at *; omega)))] | rw [if_neg (by (first | omega | (simp only [Int64.le_iff_toInt_le, Int64.lt_iff_toInt_lt, Int32.le_iff_toInt_le, Int32.lt_iff_toInt_lt, ← Int32.toInt_inj, ← Int64.toInt_inj, Int32.toInt_toInt64, (show (-11 : Int32).toInt = -11 from by decide), (show (-11 : Int64).toInt = -11 from by decide), (show (-2 : Int32).toInt = -2 from by decide), (show (-2 : Int64).toInt = -2 from by decide), (show (0 : Int32).toInt = 0 from by decide), (show (0 : Int64).toInt = 0 from by decide), (show (1 : Int32).toInt = 1 from by decide), (show (1 : Int64).toInt = 1 from by decide), (show (3 : Int32).toInt = 3 from by decide), (show (3 : Int64).toInt = 3 from by decide)] at *; omega)))]
theorem lf_x_copy_8 (s : Int32) (t : Int32) (c_2 : ¬ (s = 0)) (c_12 : s = 1) (c_14 : ¬ (t = 0)) (c_16 : ¬ (t = 1)) (c_18 : t = 2) : ((-11) : Int32) = if 0 ≤ s ∧ s ≤ 3 ∧ 0 ≤ t ∧ t ≤ 3 then -11 else -2 := by
  repeat first | rfl | rw [if_pos (by (first | omega | (simp only [Int64.le_iff_toInt_le, Int64.lt_iff_toInt_lt, Int32.le_iff_toInt_le, Int32.lt_iff_toInt_lt, ← Int32.toInt_inj, ← Int64.toInt_inj, Int32.toInt_toInt64, (show (-11 : Int32).toInt = -11 from by decide), (show (-11 : Int64).toInt = -11 from by decide), (show (-2 : Int32).toInt = -2 from by decide), (show (-2 : Int64).toInt = -2 from by decide), (show (0 : Int32).toInt = 0 from by decide), (show (0 : Int64).toInt = 0 from by decide), (show (1 : Int32).toInt = 1 from by decide), (show (1 : Int64).toInt = 1 from by decide), (show (2 : Int32).toInt = 2 from by decide), (show (2 : Int64).toInt = 2 from by decide), (show (3 : Int32).toInt = 3 from by decide), (show (3 : Int64).toInt = 3 from by decide)] at *; omega)))] | rw [if_neg (by (first | omega | (simp only [Int64.le_iff_toInt_le, Int64.lt_iff_toInt_lt, Int32.le_iff_toInt_le, Int32.lt_iff_toInt_lt, ← Int32.toInt_inj, ← Int64.toInt_inj, Int32.toInt_toInt64, (show (-11 : Int32).toInt = -11 from by decide), (show (-11 : Int64).toInt = -11 from by decide), (show (-2 : Int32).toInt = -2 from by decide), (show (-2 : Int64).toInt = -2 from by decide), (show (0 : Int32).toInt = 0 from by decide), (show (0 : Int64).toInt = 0 from by decide), (show (1 : Int32).toInt = 1 from by decide), (show (1 : Int64).toInt = 1 from by decide), (show (2 : Int32).toInt = 2 from by decide), (show (2 : Int64).toInt = 2 from by decide), (show (3 : Int32).toInt = 3 from by decide), (show (3 : Int64).toInt = 3 from by decide)] at *; omega)))]
theorem lf_x_copy_9 (s : Int32) (t : Int32) (c_2 : ¬ (s = 0)) (c_12 : s = 1) (c_14 : ¬ (t = 0)) (c_16 : ¬ (t = 1)) (c_18 : ¬ (t = 2)) (c_20 : t = 3) : ((-11) : Int32) = if 0 ≤ s ∧ s ≤ 3 ∧ 0 ≤ t ∧ t ≤ 3 then -11 else -2 := by
  repeat first | rfl | rw [if_pos (by (first | omega | (simp only [Int64.le_iff_toInt_le, Int64.lt_iff_toInt_lt, Int32.le_iff_toInt_le, Int32.lt_iff_toInt_lt, ← Int32.toInt_inj, ← Int64.toInt_inj, Int32.toInt_toInt64, (show (-11 : Int32).toInt = -11 from by decide), (show (-11 : Int64).toInt = -11 from by decide), (show (-2 : Int32).toInt = -2 from by decide), (show (-2 : Int64).toInt = -2 from by decide), (show (0 : Int32).toInt = 0 from by decide), (show (0 : Int64).toInt = 0 from by decide), (show (1 : Int32).toInt = 1 from by decide), (show (1 : Int64).toInt = 1 from by decide), (show (2 : Int32).toInt = 2 from by decide), (show (2 : Int64).toInt = 2 from by decide), (show (3 : Int32).toInt = 3 from by decide), (show (3 : Int64).toInt = 3 from by decide)] at *; omega)))] | rw [if_neg (by (first | omega | (simp only [Int64.le_iff_toInt_le, Int64.lt_iff_toInt_lt, Int32.le_iff_toInt_le, Int32.lt_iff_toInt_lt, ← Int32.toInt_inj, ← Int64.toInt_inj, Int32.toInt_toInt64, (show (-11 : Int32).toInt = -11 from by decide), (show (-11 : Int64).toInt = -11 from by decide), (show (-2 : Int32).toInt = -2 from by decide), (show (-2 : Int64).toInt = -2 from by decide), (show (0 : Int32).toInt = 0 from by decide), (show (0 : Int64).toInt = 0 from by decide), (show (1 : Int32).toInt = 1 from by decide), (show (1 : Int64).toInt = 1 from by decide), (show (2 : Int32).toInt = 2 from by decide), (show (2 : Int64).toInt = 2 from by decide), (show (3 : Int32).toInt = 3 from by decide), (show (3 : Int64).toInt = 3 from by decide)] at *; omega)))]
theorem lf_x_copy_10 (s : Int32) (t : Int32) (c_2 : ¬ (s = 0)) (c_12 : s = 1) (c_14 : ¬ (t = 0)) (c_16 : ¬ (t = 1)) (c_18 : ¬ (t = 2)) (c_20 : ¬ (t = 3)) : ((-2) : Int32) = if 0 ≤ s ∧ s ≤ 3 ∧ 0 ≤ t ∧ t ≤ 3 then -11 else -2 := by
  repeat first | rfl | rw [if_pos (by (first | omega | (simp only [Int64.le_iff_toInt_le, Int64.lt_iff_toInt_lt, Int32.le_iff_toInt_le, Int32.lt_iff_toInt_lt, ← Int32.toInt_inj, ← Int64.toInt_inj, Int32.toInt_toInt64, (show (-11 : Int32).toInt = -11 from by decide), (show (-11 : Int64).toInt = -11 from by decide), (show (-2 : Int32).toInt = -2 from by decide), (show (-2 : Int64).toInt = -2 from by decide), (show (0 : Int32).toInt = 0 from by decide), (show (0 : Int64).toInt = 0 from by decide), (show (1 : Int32).toInt = 1 from by decide), (show (1 : Int64).toInt = 1 from by decide), (show (2 : Int32).toInt = 2 from by decide), (show (2 : Int64).toInt = 2 from by decide), (show (3 : Int32).toInt = 3 from by decide), (show (3 : Int64).toInt = 3 from by decide)] at *; omega)))] | rw [if_neg (by (first | omega | (simp only [Int64.le_iff_toInt_le, Int64.lt_iff_toInt_lt, Int32.le_iff_toInt_le, Int32.lt_iff_toInt_lt, ← Int32.toInt_inj, ← Int64.toInt_inj, Int32.toInt_toInt64, (show (-11 : Int32).toInt = -11 from by decide), (show (-11 : Int64).toInt = -11 from by decide), (show (-2 : Int32).toInt = -2 from by decide), (show (-2 : Int64).toInt = -2 from by decide), (show (0 : Int32).toInt = 0 from by decide), (show (0 : Int64).toInt = 0 from by decide), (show (1 : Int32).toInt = 1 from by decide), (show (1 : Int64).toInt = 1 from by decide), (show (2 : Int32).toInt = 2 from by decide), (show (2 : Int64).toInt = 2 from by decide), (show (3 : Int32).toInt = 3 from by decide), (show (3 : Int64).toInt = 3 from by decide)] at *; omega)))]
theorem lf_x_copy_11 (s : Int32) (t : Int32) (c_2 : ¬ (s = 0)) (c_12 : ¬ (s = 1)) (c_22 : s = 2) (c_24 : t = 0) : ((-11) : Int32) = if 0 ≤ s ∧ s ≤ 3 ∧ 0 ≤ t ∧ t ≤ 3 then -11 else -2 := by
  repeat first | rfl | rw [if_pos (by (first | omega | (simp only [Int64.le_iff_toInt_le, Int64.lt_iff_toInt_lt, Int32.le_iff_toInt_le, Int32.lt_iff_toInt_lt, ← Int32.toInt_inj, ← Int64.toInt_inj, Int32.toInt_toInt64, (show (-11 : Int32).toInt = -11 from by decide), (show (-11 : Int64).toInt = -11 from by decide), (show (-2 : Int32).toInt = -2 from by decide), (show (-2 : Int64).toInt = -2 from by decide), (show (0 : Int32).toInt = 0 from by decide), (show (0 : Int64).toInt = 0 from by decide), (show (1 : Int32).toInt = 1 from by decide), (show (1 : Int64).toInt = 1 from by decide), (show (2 : Int32).toInt = 2 from by decide), (show (2 : Int64).toInt = 2 from by decide), (show (3 : Int32).toInt = 3 from by decide), (show (3 : Int64).toInt = 3 from by decide)] at *; omega)))] | rw [if_neg (by (first | omega | (simp only [Int64.le_iff_toInt_le, Int64.lt_iff_toInt_lt, Int32.le_iff_toInt_le, Int32.lt_iff_toInt_lt, ← Int32.toInt_inj, ← Int64.toInt_inj, Int32.toInt_toInt64, (show (-11 : Int32).toInt = -11 from by decide), (show (-11 : Int64).toInt = -11 from by decide), (show (-2 : Int32).toInt = -2 from by decide), (show (-2 : Int64).toInt = -2 from by decide), (show (0 : Int32).toInt = 0 from by decide), (show (0 : Int64).toInt = 0 from by decide), (show (1 : Int32).toInt = 1 from by decide), (show (1 : Int64).toInt = 1 from by decide), (show (2 : Int32).toInt = 2 from by decide), (show (2 : Int64).toInt = 2 from by decide), (show (3 : Int32).toInt = 3 from by decide), (show (3 : Int64).toInt = 3 from by decide)] at *; omega)))]
theorem lf_x_copy_12 (s : Int32) (t : Int32) (c_2 : ¬ (s = 0)) (c_12 : ¬ (s = 1)) (c_22 : s = 2) (c_24 : ¬ (t = 0)) (c_26 : t = 1) : ((-11) : Int32) = if 0 ≤ s ∧ s ≤ 3 ∧ 0 ≤ t ∧ t ≤ 3 then -11 else -2 := by
  repeat first | rfl | rw [if_pos (by (first | omega | (simp only [Int64.le_iff_toInt_le, Int64.lt_iff_toInt_lt, Int32.le_iff_toInt_le, Int32.lt_iff_toInt_lt, ← Int32.toInt_inj, ← Int64.toInt_inj, Int32.toInt_toInt64, (show (-11 : Int32).toInt = -11 from by decide), (show (-11 : Int64).toInt = -11 from by decide), (show (-2 : Int32).toInt = -2 from by decide), (show (-2 : Int64).toInt = -2 from by decide), (show (0 : Int32).toInt = 0 from by decide), (show (0 : Int64).toInt = 0 from by decide), (show (1 : Int32).toInt = 1 from by decide), (show (1 : Int64).toInt = 1 from by decide), (show (2 : Int32).toInt = 2 from by decide), (show (2 : Int64).toInt = 2 from by decide), (show (3 : Int32).toInt = 3 from by decide), (show (3 : Int64).toInt = 3 from by decide)] at *; omega)))] | rw [if_neg (by (first | omega | (simp only [Int64.le_iff_toInt_le, Int64.lt_iff_toInt_lt, Int32.le_iff_toInt_le, Int32.lt_iff_toInt_lt, ← Int32.toInt_inj, ← Int64.toInt_inj, Int32.toInt_toInt64, (show (-11 : Int32).toInt = -11 from by decide), (show (-11 : Int64).toInt = -11 from by decide), (show (-2 : Int32).toInt = -2 from by decide), (show (-2 : Int64).toInt = -2 from by decide), (show (0 : Int32).toInt = 0 from by decide), (show (0 : Int64).toInt = 0 from by decide), (show (1 : Int32).toInt = 1 from by decide), (show (1 : Int64).toInt = 1 from by decide), (show (2 : Int32).toInt = 2 from by decide), (show (2 : Int64).toInt = 2 from by decide), (show (3 : Int32).toInt = 3 from by decide), (show (3 : Int64).toInt = 3 from by decide)] at *; omega)))]
theorem lf_x_copy_13 (s : Int32) (t : Int32) (c_2 : ¬ (s = 0)) (c_12 : ¬ (s = 1)) (c_22 : s = 2) (c_24 : ¬ (t = 0)) (c_26 : ¬ (t = 1)) (c_28 : t = 2) : ((-11) : Int32) = if 0 ≤ s ∧ s ≤ 3 ∧ 0 ≤ t ∧ t ≤ 3 then -11 else -2 := by
  repeat first | rfl | rw [if_pos (by (first | omega | (simp only [Int64.le_iff_toInt_le, Int64.lt_iff_toInt_lt, Int32.le_iff_toInt_le, Int32.lt_iff_toInt_lt, ← Int32.toInt_inj, ← Int64.toInt_inj, Int32.toInt_toInt64, (show (-11 : Int32).toInt = -11 from by decide), (show (-11 : Int64).toInt = -11 from by decide), (show (-2 : Int32).toInt = -2 from by decide), (show (-2 : Int64).toInt = -2 from by decide), (show (0 : Int32).toInt = 0 from by decide), (show (0 : Int64).toInt = 0 from by decide), (show (1 : Int32).toInt = 1 from by decide), (show (1 : Int64).toInt = 1 from by decide), (show (2 : Int32).toInt = 2 from by decide), (show (2 : Int64).toInt = 2 from by decide), (show (3 : Int32).toInt = 3 from by decide), (show (3 : Int64).toInt = 3 from by decide)] at *; omega)))] | rw [if_neg (by (first | omega | (simp only [Int64.le_iff_toInt_le, Int64.lt_iff_toInt_lt, Int32.le_iff_toInt_le, Int32.lt_iff_toInt_lt, ← Int32.toInt_inj, ← Int64.toInt_inj, Int32.toInt_toInt64, (show (-11 : Int32).toInt = -11 from by decide), (show (-11 : Int64).toInt = -11 from by decide), (show (-2 : Int32).toInt = -2 from by decide), (show (-2 : Int64).toInt = -2 from by decide), (show (0 : Int32).toInt = 0 from by decide), (show (0 : Int64).toInt = 0 from by decide), (show (1 : Int32).toInt = 1 from by decide), (show (1 : Int64).toInt = 1 from by decide), (show (2 : Int32).toInt = 2 from by decide), (show (2 : Int64).toInt = 2 from by decide), (show (3 : Int32).toInt = 3 from by decide), (show (3 : Int64).toInt = 3 from by decide)] at *; omega)))]
theorem lf_x_copy_14 (s : Int32) (t : Int32) (c_2 : ¬ (s = 0)) (c_12 : ¬ (s = 1)) (c_22 : s = 2) (c_24 : ¬ (t = 0)) (c_26 : ¬ (t = 1)) (c_28 : ¬ (t = 2)) (c_30 : t = 3) : ((-11) : Int32) = if 0 ≤ s ∧ s ≤ 3 ∧ 0 ≤ t ∧ t ≤ 3 then -11 else -2 := by
  repeat first | rfl | rw [if_pos (by (first | omega | (simp only [Int64.le_iff_toInt_le, Int64.lt_iff_toInt_lt, Int32.le_iff_toInt_le, Int32.lt_iff_toInt_lt, ← Int32.toInt_inj, ← Int64.toInt_inj, Int32.toInt_toInt64, (show (-11 : Int32).toInt = -11 from by decide), (show (-11 : Int64).toInt = -11 from by decide), (show (-2 : Int32).toInt = -2 from by decide), (show (-2 : Int64).toInt = -2 from by decide), (show (0 : Int32).toInt = 0 from by decide), (show (0 : Int64).toInt = 0 from by decide), (show (1 : Int32).toInt = 1 from by decide), (show (1 : Int64).toInt = 1 from by decide), (show (2 : Int32).toInt = 2 from by decide), (show (2 : Int64).toInt = 2 from by decide), (show (3 : Int32).toInt = 3 from by decide), (show (3 : Int64).toInt = 3 from by decide)] at *; omega)))] | rw [if_neg (by (first | omega | (simp only [Int64.le_iff_toInt_le, Int64.lt_iff_toInt_lt, Int32.le_iff_toInt_le, Int32.lt_iff_toInt_lt, ← Int32.toInt_inj, ← Int64.toInt_inj, Int32.toInt_toInt64, (show (-11 : Int32).toInt = -11 from by decide), (show (-11 : Int64).toInt = -11 from by decide), (show (-2 : Int32).toInt = -2 from by decide), (show (-2 : Int64).toInt = -2 from by decide), (show (0 : Int32).toInt = 0 from by decide), (show (0 : Int64).toInt = 0 from by decide), (show (1 : Int32).toInt = 1 from by decide), (show (1 : Int64).toInt = 1 from by decide), (show (2 : Int32).toInt = 2 from by decide), (show (2 : Int64).toInt = 2 from by decide), (show (3 : Int32).toInt = 3 from by decide), (show (3 : Int64).toInt = 3 from by decide)] at *; omega)))]
theorem lf_x_copy_15 (s : Int32) (t : Int32) (c_2 : ¬ (s = 0)) (c_12 : ¬ (s = 1)) (c_22 : s = 2) (c_24 : ¬ (t = 0)) (c_26 : ¬ (t = 1)) (c_28 : ¬ (t = 2)) (c_30 : ¬ (t = 3)) : ((-2) : Int32) = if 0 ≤ s ∧ s ≤ 3 ∧ 0 ≤ t ∧ t ≤ 3 then -11 else -2 := by
  repeat first | rfl | rw [if_pos (by (first | omega | (simp only [Int64.le_iff_toInt_le, Int64.lt_iff_toInt_lt, Int32.le_iff_toInt_le, Int32.lt_iff_toInt_lt, ← Int32.toInt_inj, ← Int64.toInt_inj, Int32.toInt_toInt64, (show (-11 : Int32).toInt = -11 from by decide), (show (-11 : Int64).toInt = -11 from by decide), (show (-2 : Int32).toInt = -2 from by decide), (show (-2 : Int64).toInt = -2 from by decide), (show (0 : Int32).toInt = 0 from by decide), (show (0 : Int64).toInt = 0 from by decide), (show (1 : Int32).toInt = 1 from by decide), (show (1 : Int64).toInt = 1 from by decide), (show (2 : Int32).toInt = 2 from by decide), (show (2 : Int64).toInt = 2 from by decide), (show (3 : Int32).toInt = 3 from by decide), (show (3 : Int64).toInt = 3 from by decide)] at *; omega)))] | rw [if_neg (by (first | omega | (simp only [Int64.le_iff_toInt_le, Int64.lt_iff_toInt_lt, Int32.le_iff_toInt_le, Int32.lt_iff_toInt_lt, ← Int32.toInt_inj, ← Int64.toInt_inj, Int32.toInt_toInt64, (show (-11 : Int32).toInt = -11 from by decide), (show (-11 : Int64).toInt = -11 from by decide), (show (-2 : Int32).toInt = -2 from by decide), (show (-2 : Int64).toInt = -2 from by decide), (show (0 : Int32).toInt = 0 from by decide), (show (0 : Int64).toInt = 0 from by decide), (show (1 : Int32).toInt = 1 from by decide), (show (1 : Int64).toInt = 1 from by decide), (show (2 : Int32).toInt = 2 from by decide), (show (2 : Int64).toInt = 2 from by decide), (show (3 : Int32).toInt = 3 from by decide), (show (3 : Int64).toInt = 3 from by decide)] at *; omega)))]
theorem lf_x_copy_16 (s : Int32) (t : Int32) (c_2 : ¬ (s = 0)) (c_12 : ¬ (s = 1)) (c_22 : ¬ (s = 2)) (c_32 : s = 3) (c_34 : t = 0) : ((-11) : Int32) = if 0 ≤ s ∧ s ≤ 3 ∧ 0 ≤ t ∧ t ≤ 3 then -11 else -2 := by
  repeat first | rfl | rw [if_pos (by (first | omega | (simp only [Int64.le_iff_toInt_le, Int64.lt_iff_toInt_lt, Int32.le_iff_toInt_le, Int32.lt_iff_toInt_lt, ← Int32.toInt_inj, ← Int64.toInt_inj, Int32.toInt_toInt64, (show (-11 : Int32).toInt = -11 from by decide), (show (-11 : Int64).toInt = -11 from by decide), (show (-2 : Int32).toInt = -2 from by decide), (show (-2 : Int64).toInt = -2 from by decide), (show (0 : Int32).toInt = 0 from by decide), (show (0 : Int64).toInt = 0 from by decide), (show (1 : Int32).toInt = 1 from by decide), (show (1 : Int64).toInt = 1 from by decide), (show (2 : Int32).toInt = 2 from by decide), (show (2 : Int64).toInt = 2 from by decide), (show (3 : Int32).toInt = 3 from by decide), (show (3 : Int64).toInt = 3 from by decide)] at *; omega)))] | rw [if_neg (by (first | omega | (simp only [Int64.le_iff_toInt_le, Int64.lt_iff_toInt_lt, Int32.le_iff_toInt_le, Int32.lt_iff_toInt_lt, ← Int32.toInt_inj, ← Int64.toInt_inj, Int32.toInt_toInt64, (show (-11 : Int32).toInt = -11 from by decide), (show (-11 : Int64).toInt = -11 from by decide), (show (-2 : Int32).toInt = -2 from by decide), (show (-2 : Int64).toInt = -2 from by decide), (show (0 : Int32).toInt = 0 from by decide), (show (0 : Int64).toInt = 0 from by decide), (show (1 : Int32).toInt = 1 from by decide), (show (1 : Int64).toInt = 1 from by decide), (show (2 : Int32).toInt = 2 from by decide), (show (2 : Int64).toInt = 2 from by decide), (show (3 : Int32).toInt = 3 from by decide), (show (3 : Int64).toInt = 3 from by decide)] at *; omega)))]
theorem lf_x_copy_17 (s : Int32) (t : Int32) (c_2 : ¬ (s = 0)) (c_12 : ¬ (s = 1)) (c_22 : ¬ (s = 2)) (c_32 : s = 3) (c_34 : ¬ (t = 0)) (c_36 : t = 1) : ((-11) : Int32) = if 0 ≤ s ∧ s ≤ 3 ∧ 0 ≤ t ∧ t ≤ 3 then -11 else -2 := by
  repeat first | rfl | rw [if_pos (by (first | omega | (simp only [Int64.le_iff_toInt_le, Int64.lt_iff_toInt_lt, Int32.le_iff_toInt_le, Int32.lt_iff_toInt_lt, ← Int32.toInt_inj, ← Int64.toInt_inj, Int32.toInt_toInt64, (show (-11 : Int32).toInt = -11 from by decide), (show (-11 : Int64).toInt = -11 from by decide), (show (-2 : Int32).toInt = -2 from by decide), (show (-2 : Int64).toInt = -2 from by decide), (show (0 : Int32).toInt = 0 from by decide), (show (0 : Int64).toInt = 0 from by decide), (show (1 : Int32).toInt = 1 from by decide), (show (1 : Int64).toInt = 1 from by decide), (show (2 : Int32).toInt = 2 from by decide), (show (2 : Int64).toInt = 2 from by decide), (show (3 : Int32).toInt = 3 from by decide), (show (3 : Int64).toInt = 3 from by decide)] at *; omega)))] | rw [if_neg (by (first | omega | (simp only [Int64.le_iff_toInt_le, Int64.lt_iff_toInt_lt, Int32.le_iff_toInt_le, Int32.lt_iff_toInt_lt, ← Int32.toInt_inj, ← Int64.toInt_inj, Int32.toInt_toInt64, (show (-11 : Int32).toInt = -11 from by decide), (show (-11 : Int64).toInt = -11 from by decide), (show (-2 : Int32).toInt = -2 from by decide), (show (-2 : Int64).toInt = -2 from by decide), (show (0 : Int32).toInt = 0 from by decide), (show (0 : Int64).toInt = 0 from by decide), (show (1 : Int32).toInt = 1 from by decide), (show (1 : Int64).toInt = 1 from by decide), (show (2 : Int32).toInt = 2 from by decide), (show (2 : Int64).toInt = 2 from by decide), (show (3 : Int32).toInt = 3 from by decide), (show (3 : Int64).toInt = 3 from by decide)] at *; omega)))]
theorem lf_x_copy_18 (s : Int32) (t : Int32) (c_2 : ¬ (s = 0)) (c_12 : ¬ (s = 1)) (c_22 : ¬ (s = 2)) (c_32 : s = 3) (c_34 : ¬ (t = 0)) (c_36 : ¬ (t = 1)) (c_38 : t = 2) : ((-11) : Int32) = if 0 ≤ s ∧ s ≤ 3 ∧ 0 ≤ t ∧ t ≤ 3 then -11 else -2 := by
  repeat first | rfl | rw [if_pos (by (first | omega | (simp only [Int64.le_iff_toInt_le, Int64.lt_iff_toInt_lt, Int32.le_iff_toInt_le, Int32.lt_iff_toInt_lt, ← Int32.toInt_inj, ← Int64.toInt_inj, Int32.toInt_toInt64, (show (-11 : Int32).toInt = -11 from by decide), (show (-11 : Int64).toInt = -11 from by decide), (show (-2 : Int32).toInt = -2 from by decide), (show (-2 : Int64).toInt = -2 from by decide), (show (0 : Int32).toInt = 0 from by decide), (show (0 : Int64).toInt = 0 from by decide), (show (1 : Int32).toInt = 1 from by decide), (show (1 : Int64).toInt = 1 from by decide), (show (2 : Int32).toInt = 2 from by decide), (show (2 : Int64).toInt = 2 from by decide), (show (3 : Int32).toInt = 3 from by decide), (show (3 : Int64).toInt = 3 from by decide)] at *; omega)))] | rw [if_neg (by (first | omega | (simp only [Int64.le_iff_toInt_le, Int64.lt_iff_toInt_lt, Int32.le_iff_toInt_le, Int32.lt_iff_toInt_lt, ← Int32.toInt_inj, ← Int64.toInt_inj, Int32.toInt_toInt64, (show (-11 : Int32).toInt = -11 from by decide), (show (-11 : Int64).toInt = -11 from by decide), (show (-2 : Int32).toInt = -2 from by decide), (show (-2 : Int64).toInt = -2 from by decide), (show (0 : Int32).toInt = 0 from by decide), (show (0 : Int64).toInt = 0 from by decide), (show (1 : Int32).toInt = 1 from by decide), (show (1 : Int64).toInt = 1 from by decide), (show (2 : Int32).toInt = 2 from by decide), (show (2 : Int64).toInt = 2 from by decide), (show (3 : Int32).toInt = 3 from by decide), (show (3 : Int64).toInt = 3 from by decide)] at *; omega)))]
theorem lf_x_copy_19 (s : Int32) (t : Int32) (c_2 : ¬ (s = 0)) (c_12 : ¬ (s = 1)) (c_22 : ¬ (s = 2)) (c_32 : s = 3) (c_34 : ¬ (t = 0)) (c_36 : ¬ (t = 1)) (c_38 : ¬ (t = 2)) (c_40 : t = 3) : ((-11) : Int32) = if 0 ≤ s ∧ s ≤ 3 ∧ 0 ≤ t ∧ t ≤ 3 then -11 else -2 := by
  repeat first | rfl | rw [if_pos (by (first | omega | (simp only [Int64.le_iff_toInt_le, Int64.lt_iff_toInt_lt, Int32.le_iff_toInt_le, Int32.lt_iff_toInt_lt, ← Int32.toInt_inj, ← Int64.toInt_inj, Int32.toInt_toInt64, (show (-11 : Int32).toInt = -11 from by decide), (show (-11 : Int64).toInt = -11 from by decide), (show (-2 : Int32).toInt = -2 from by decide), (show (-2 : Int64).toInt = -2 from by decide), (show (0 : Int32).toInt = 0 from by decide), (show (0 : Int64).toInt = 0 from by decide), (show (1 : Int32).toInt = 1 from by decide), (show (1 : Int64).toInt = 1 from by decide), (show (2 : Int32).toInt = 2 from by decide), (show (2 : Int64).toInt = 2 from by decide), (show (3 : Int32).toInt = 3 from by decide), (show (3 : Int64).toInt = 3 from by decide)] at *; omega)))] | rw [if_neg (by (first | omega | (simp only [Int64.le_iff_toInt_le, Int64.lt_iff_toInt_lt, Int32.le_iff_toInt_le, Int32.lt_iff_toInt_lt, ← Int32.toInt_inj, ← Int64.toInt_inj, Int32.toInt_toInt64, (show (-11 : Int32).toInt = -11 from by decide), (show (-11 : Int64).toInt = -11 from by decide), (show (-2 : Int32).toInt = -2 from by decide), (show (-2 : Int64).toInt = -2 from by decide), (show (0 : Int32).toInt = 0 from by decide), (show (0 : Int64).toInt = 0 from by decide), (show (1 : Int32).toInt = 1 from by decide), (show (1 : Int64).toInt = 1 from by decide), (show (2 : Int32).toInt = 2 from by decide), (show (2 : Int64).toInt = 2 from by decide), (show (3 : Int32).toInt = 3 from by decide), (show (3 : Int64).toInt = 3 from by decide)] at *; omega)))]
theorem lf_x_copy_20 (s : Int32) (t : Int32) (c_2 : ¬ (s = 0)) (c_12 : ¬ (s = 1)) (c_22 : ¬ (s = 2)) (c_32 : s = 3) (c_34 : ¬ (t = 0)) (c_36 : ¬ (t = 1)) (c_38 : ¬ (t = 2)) (c_40 : ¬ (t = 3)) : ((-2) : Int32) = if 0 ≤ s ∧ s ≤ 3 ∧ 0 ≤ t ∧ t ≤ 3 then -11 else -2 := by
  repeat first | rfl | rw [if_pos (by (first | omega | (simp only [Int64.le_iff_toInt_le, Int64.lt_iff_toInt_lt, Int32.le_iff_toInt_le, Int32.lt_iff_toInt_lt, ← Int32.toInt_inj, ← Int64.toInt_inj, Int32.toInt_toInt64, (show (-11 : Int32).toInt = -11 from by decide), (show (-11 : Int64).toInt = -11 from by decide), (show (-2 : Int32).toInt = -2 from by decide), (show (-2 : Int64).toInt = -2 from by decide), (show (0 : Int32).toInt = 0 from by decide), (show (0 : Int64).toInt = 0 from by decide), (show (1 : Int32).toInt = 1 from by decide), (show (1 : Int64).toInt = 1 from by decide), (show (2 : Int32).toInt = 2 from by decide), (show (2 : Int64).toInt = 2 from by decide), (show (3 : Int32).toInt = 3 from by decide), (show (3 : Int64).toInt = 3 from by decide)] at *; omega)))] | rw [if_neg (by (first | omega | (simp only [Int64.le_iff_toInt_le, Int64.lt_iff_toInt_lt, Int32.le_iff_toInt_le, Int32.lt_iff_toInt_lt, ← Int32.toInt_inj, ← Int64.toInt_inj, Int32.toInt_toInt64, (show (-11 : Int32).toInt = -11 from by decide), (show (-11 : Int64).toInt = -11 from by decide), (show (-2 : Int32).toInt = -2 from by decide), (show (-2 : Int64).toInt = -2 from by decide), (show (0 : Int32).toInt = 0 from by decide), (show (0 : Int64).toInt = 0 from by decide), (show (1 : Int32).toInt = 1 from by decide), (show (1 : Int64).toInt = 1 from by decide), (show (2 : Int32).toInt = 2 from by decide), (show (2 : Int64).toInt = 2 from by decide), (show (3 : Int32).toInt = 3 from by decide), (show (3 : Int64).toInt = 3 from by decide)] at *; omega)))]
theorem lf_x_copy_21 (s : Int32) (t : Int32) (c_2 : ¬ (s = 0)) (c_12 : ¬ (s = 1)) (c_22 : ¬ (s = 2)) (c_32 : ¬ (s = 3)) (c_43 : t = 0) : ((-2) : Int32) = if 0 ≤ s ∧ s ≤ 3 ∧ 0 ≤ t ∧ t ≤ 3 then -11 else -2 := by
  repeat first | rfl | rw [if_pos (by (first | omega | (simp only [Int64.le_iff_toInt_le, Int64.lt_iff_toInt_lt, Int32.le_iff_toInt_le, Int32.lt_iff_toInt_lt, ← Int32.toInt_inj, ← Int64.toInt_inj, Int32.toInt_toInt64, (show (-11 : Int32).toInt = -11 from by decide), (show (-11 : Int64).toInt = -11 from by decide), (show (-2 : Int32).toInt = -2 from by decide), (show (-2 : Int64).toInt = -2 from by decide), (show (0 : Int32).toInt = 0 from by decide), (show (0 : Int64).toInt = 0 from by decide), (show (1 : Int32).toInt = 1 from by decide), (show (1 : Int64).toInt = 1 from by decide), (show (2 : Int32).toInt = 2 from by decide), (show (2 : Int64).toInt = 2 from by decide), (show (3 : Int32).toInt = 3 from by decide), (show (3 : Int64).toInt = 3 from by decide)] at *; omega)))] | rw [if_neg (by (first | omega | (simp only [Int64.le_iff_toInt_le, Int64.lt_iff_toInt_lt, Int32.le_iff_toInt_le, Int32.lt_iff_toInt_lt, ← Int32.toInt_inj, ← Int64.toInt_inj, Int32.toInt_toInt64, (show (-11 : Int32).toInt = -11 from by decide), (show (-11 : Int64).toInt = -11 from by decide), (show (-2 : Int32).toInt = -2 from by decide), (show (-2 : Int64).toInt = -2 from by decide), (show (0 : Int32).toInt = 0 from by decide), (show (0 : Int64).toInt = 0 from by decide), (show (1 : Int32).toInt = 1 from by decide), (show (1 : Int64).toInt = 1 from by decide), (show (2 : Int32).toInt = 2 from by decide), (show (2 : Int64).toInt = 2 from by decide), (show (3 : Int32).toInt = 3 from by decide), (show (3 : Int64).toInt = 3 from by decide)] at *; omega)))]
theorem lf_x_copy_22 (s : Int32) (t : Int32) (c_2 : ¬ (s = 0)) (c_12 : ¬ (s = 1)) (c_22 : ¬ (s = 2)) (c_32 : ¬ (s = 3)) (c_43 : ¬ (t = 0)) (c_44 : t = 1) : ((-2) : Int32) = if 0 ≤ s ∧ s ≤ 3 ∧ 0 ≤ t ∧ t ≤ 3 then -11 else -2 := by
  repeat first | rfl | rw [if_pos (by (first | omega | (simp only [Int64.le_iff_toInt_le, Int64.lt_iff_toInt_lt, Int32.le_iff_toInt_le, Int32.lt_iff_toInt_lt, ← Int32.toInt_inj, ← Int64.toInt_inj, Int32.toInt_toInt64, (show (-11 : Int32).toInt = -11 from by decide), (show (-11 : Int64).toInt = -11 from by decide), (show (-2 : Int32).toInt = -2 from by decide), (show (-2 : Int64).toInt = -2 from by decide), (show (0 : Int32).toInt = 0 from by decide), (show (0 : Int64).toInt = 0 from by decide), (show (1 : Int32).toInt = 1 from by decide), (show (1 : Int64).toInt = 1 from by decide), (show (2 : Int32).toInt = 2 from by decide), (show (2 : Int64).toInt = 2 from by decide), (show (3 : Int32).toInt = 3 from by decide), (show (3 : Int64).toInt = 3 from by decide)] at *; omega)))] | rw [if_neg (by (first | omega | (simp only [Int64.le_iff_toInt_le, Int64.lt_iff_toInt_lt, Int32.le_iff_toInt_le, Int32.lt_iff_toInt_lt, ← Int32.toInt_inj, ← Int64.toInt_inj, Int32.toInt_toInt64, (show (-11 : Int32).toInt = -11 from by decide), (show (-11 : Int64).toInt = -11 from by decide), (show (-2 : Int32).toInt = -2 from by decide), (show (-2 : Int64).toInt = -2 from by decide), (show (0 : Int32).toInt = 0 from by decide), (show (0 : Int64).toInt = 0 from by decide), (show (1 : Int32).toInt = 1 from by decide), (show (1 : Int64).toInt = 1 from by decide), (show (2 : Int32).toInt = 2 from by decide), (show (2 : Int64).toInt = 2 from by decide), (show (3 : Int32).toInt = 3 from by decide), (show (3 : Int64).toInt = 3 from by decide)] at *; omega)))]
theorem lf_x_copy_23 (s : Int32) (t : Int32) (c_2 : ¬ (s = 0)) (c_12 : ¬ (s = 1)) (c_22 : ¬ (s = 2)) (c_32 : ¬ (s = 3)) (c_43 : ¬ (t = 0)) (c_44 : ¬ (t = 1)) (c_45 : t = 2) : ((-2) : Int32) = if 0 ≤ s ∧ s ≤ 3 ∧ 0 ≤ t ∧ t ≤ 3 then -11 else -2 := by
  repeat first | rfl | rw [if_pos (by (first | omega | (simp only [Int64.le_iff_toInt_le, Int64.lt_iff_toInt_lt, Int32.le_iff_toInt_le, Int32.lt_iff_toInt_lt, ← Int32.toInt_inj, ← Int64.toInt_inj, Int32.toInt_toInt64, (show (-11 : Int32).toInt = -11 from by decide), (show (-11 : Int64).toInt = -11 from by decide), (show (-2 : Int32).toInt = -2 from by decide), (show (-2 : Int64).toInt = -2 from by decide), (show (0 : Int32).toInt = 0 from by decide), (show (0 : Int64).toInt = 0 from by decide), (show (1 : Int32).toInt = 1 from by decide), (show (1 : Int64).toInt = 1 from by decide), (show (2 : Int32).toInt = 2 from by decide), (show (2 : Int64).toInt = 2 from by decide), (show (3 : Int32).toInt = 3 from by decide), (show (3 : Int64).toInt = 3 from by decide)] at *; omega)))] | rw [if_neg (by (first | omega | (simp only [Int64.le_iff_toInt_le, Int64.lt_iff_toInt_lt, Int32.le_iff_toInt_le, Int32.lt_iff_toInt_lt, ← Int32.toInt_inj, ← Int64.toInt_inj, Int32.toInt_toInt64, (show (-11 : Int32).toInt = -11 from by decide), (show (-11 : Int64).toInt = -11 from by decide), (show (-2 : Int32).toInt = -2 from by decide), (show (-2 : Int64).toInt = -2 from by decide), (show (0 : Int32).toInt = 0 from by decide), (show (0 : Int64).toInt = 0 from by decide), (show (1 : Int32).toInt = 1 from by decide), (show (1 : Int64).toInt = 1 from by decide), (show (2 : Int32).toInt = 2 from by decide), (show (2 : Int64).toInt = 2 from by decide), (show (3 : Int32).toInt = 3 from by decide), (show (3 : Int64).toInt = 3 from by decide)] at *; omega)))]
theorem lf_x_copy_24 (s : Int32) (t : Int32) (c_2 : ¬ (s = 0)) (c_12 : ¬ (s = 1)) (c_22 : ¬ (s = 2)) (c_32 : ¬ (s = 3)) (c_43 : ¬ (t = 0)) (c_44 : ¬ (t = 1)) (c_45 : ¬ (t = 2)) (c_46 : t = 3) : ((-2) : Int32) = if 0 ≤ s ∧ s ≤ 3 ∧ 0 ≤ t ∧ t ≤ 3 then -11 else -2 := by
  repeat first | rfl | rw [if_pos (by (first | omega | (simp only [Int64.le_iff_toInt_le, Int64.lt_iff_toInt_lt, Int32.le_iff_toInt_le, Int32.lt_iff_toInt_lt, ← Int32.toInt_inj, ← Int64.toInt_inj, Int32.toInt_toInt64, (show (-11 : Int32).toInt = -11 from by decide), (show (-11 : Int64).toInt = -11 from by decide), (show (-2 : Int32).toInt = -2 from by decide), (show (-2 : Int64).toInt = -2 from by decide), (show (0 : Int32).toInt = 0 from by decide), (show (0 : Int64).toInt = 0 from by decide), (show (1 : Int32).toInt = 1 from by decide), (show (1 : Int64).toInt = 1 from by decide), (show (2 : Int32).toInt = 2 from by decide), (show (2 : Int64).toInt = 2 from by decide), (show (3 : Int32).toInt = 3 from by decide), (show (3 : Int64).toInt = 3 from by decide)] at *; omega)))] | rw [if_neg (by (first | omega | (simp only [Int64.le_iff_toInt_le, Int64.lt_iff_toInt_lt, Int32.le_iff_toInt_le, Int32.lt_iff_toInt_lt, ← Int32.toInt_inj, ← Int64.toInt_inj, Int32.toInt_toInt64, (show (-11 : Int32).toInt = -11 from by decide), (show (-11 : Int64).toInt = -11 from by decide), (show (-2 : Int32).toInt = -2 from by decide), (show (-2 : Int64).toInt = -2 from by decide), (show (0 : Int32).toInt = 0 from by decide), (show (0 : Int64).toInt = 0 from by decide), (show (1 : Int32).toInt = 1 from by decide), (show (1 : Int64).toInt = 1 from by decide), (show (2 : Int32).toInt = 2 from by decide), (show (2 : Int64).toInt = 2 from by decide), (show (3 : Int32).toInt = 3 from by decide), (show (3 : Int64).toInt = 3 from by decide)] at *; omega)))]
theorem lf_x_copy_25 (s : Int32) (t : Int32) (c_2 : ¬ (s = 0)) (c_12 : ¬ (s = 1)) (c_22 : ¬ (s = 2)) (c_32 : ¬ (s = 3)) (c_43 : ¬ (t = 0)) (c_44 : ¬ (t = 1)) (c_45 : ¬ (t = 2)) (c_46 : ¬ (t = 3)) : ((-2) : Int32) = if 0 ≤ s ∧ s ≤ 3 ∧ 0 ≤ t ∧ t ≤ 3 then -11 else -2 := by
  repeat first | rfl | rw [if_pos (by (first | omega | (simp only [Int64.le_iff_toInt_le, Int64.lt_iff_toInt_lt, Int32.le_iff_toInt_le, Int32.lt_iff_toInt_lt, ← Int32.toInt_inj, ← Int64.toInt_inj, Int32.toInt_toInt64, (show (-11 : Int32).toInt = -11 from by decide), (show (-11 : Int64).toInt = -11 from by decide), (show (-2 : Int32).toInt = -2 from by decide), (show (-2 : Int64).toInt = -2 from by decide), (show (0 : Int32).toInt = 0 from by decide), (show (0 : Int64).toInt = 0 from by decide), (show (1 : Int32).toInt = 1 from by decide), (show (1 : Int64).toInt = 1 from by decide), (show (2 : Int32).toInt = 2 from by decide), (show (2 : Int64).toInt = 2 from by decide), (show (3 : Int32).toInt = 3 from by decide), (show (3 : Int64).toInt = 3 from by decide)] at *; omega)))] | rw [if_neg (by (first | omega | (simp only [Int64.le_iff_toInt_le, Int64.lt_iff_toInt_lt, Int32.le_iff_toInt_le, Int32.lt_iff_toInt_lt, ← Int32.toInt_inj, ← Int64.toInt_inj, Int32.toInt_toInt64, (show (-11 : Int32).toInt = -11 from by decide), (show (-11 : Int64).toInt = -11 from by decide), (show (-2 : Int32).toInt = -2 from by decide), (show (-2 : Int64).toInt = -2 from by decide), (show (0 : Int32).toInt = 0 from by decide), (show (0 : Int64).toInt = 0 from by decide), (show (1 : Int32).toInt = 1 from by decide), (show (1 : Int64).toInt = 1 from by decide), (show (2 : Int32).toInt = 2 from by decide), (show (2 : Int64).toInt = 2 from by decide), (show (3 : Int32).toInt = 3 from by decide), (show (3 : Int64).toInt = 3 from by decide)] at *; omega)))]
set_option maxHeartbeats 4000000 in
set_option maxRecDepth 100000 in
theorem x_copy (l : Launch) (dC : Nat → ClassId) (dI : Nat → Nat → Nat) (cI cJ cQ : ClassId) (sz : Nat) (hx : Nat) (s : Int32) (i : Int32) (t : Int32) (j : Int32) (n : Int32) (aLa : Nat) (aPa : Nat) (aGe : Nat) (aFl : Nat) (aTr : Nat) (aBe : Nat) (aLu : Nat) (aLo : Nat) (vSf : Nat) (vSm : Nat) (vCo : Nat) (vSh : Nat) (s0 : Nat) (i0 : Nat) (s1 : Nat) (i1 : Nat) (s2 : Nat) (i2 : Nat) (s3 : Nat) (i3 : Nat) : Met l yX11_copy (kW yX11_copy cX11_copy 8 (some .int)) { frames := 1, cells := 0, slots := 0, locals := 21 } (kPre dC dI cI cJ cQ sz [.ref hx, .int s, .int i, .int t, .int j, .int n] [(hx, .inr (10, [.ref aLa, .ref aPa, .ref aGe, .ref aFl, .ref aTr, .ref aBe, .ref aLu, .ref aLo, .ref vSf, .ref vSm, .ref vCo, .ref vSh, .int 0, .int 0, .int 0])), (vSh, .inl (cQ, 4, .inr (.inr (.inr (.inr (fSh s0 s1 s2 s3)))))), (s0, .inr (8, [.ref i0, .int 1, .int 0, .int 0])), (s1, .inr (8, [.ref i1, .int 1, .int 0, .int 0])), (s2, .inr (8, [.ref i2, .int 1, .int 0, .int 0])), (s3, .inr (8, [.ref i3, .int 1, .int 0, .int 0]))]) (va_Qi (fun (r : Int32) (_ : Unit) => r = if 0 ≤ s ∧ s ≤ 3 ∧ 0 ≤ t ∧ t ≤ 3 then -11 else -2) (fun _ _ => True) (va_A [(hx, .inr (10, [.ref aLa, .ref aPa, .ref aGe, .ref aFl, .ref aTr, .ref aBe, .ref aLu, .ref aLo, .ref vSf, .ref vSm, .ref vCo, .ref vSh, .int 0, .int 0, .int 0])), (vSh, .inl (cQ, 4, .inr (.inr (.inr (.inr (fSh s0 s1 s2 s3)))))), (s0, .inr (8, [.ref i0, .int 1, .int 0, .int 0])), (s1, .inr (8, [.ref i1, .int 1, .int 0, .int 0])), (s2, .inr (8, [.ref i2, .int 1, .int 0, .int 0])), (s3, .inr (8, [.ref i3, .int 1, .int 0, .int 0]))] sz)) 0 0 (va_A [(hx, .inr (10, [.ref aLa, .ref aPa, .ref aGe, .ref aFl, .ref aTr, .ref aBe, .ref aLu, .ref aLo, .ref vSf, .ref vSm, .ref vCo, .ref vSh, .int 0, .int 0, .int 0])), (vSh, .inl (cQ, 4, .inr (.inr (.inr (.inr (fSh s0 s1 s2 s3)))))), (s0, .inr (8, [.ref i0, .int 1, .int 0, .int 0])), (s1, .inr (8, [.ref i1, .int 1, .int 0, .int 0])), (s2, .inr (8, [.ref i2, .int 1, .int 0, .int 0])), (s3, .inr (8, [.ref i3, .int 1, .int 0, .int 0]))] sz) := by
  refine Met.ofW (cc := cX11_copy) (maxL := 8) (ret := (some .int)) (by decide) rfl ?_
  intro p₀ e₀ s₀ m₀ args below meth c₀ s₁ B hml hv₀
  obtain ⟨rfl, hsz, hP, hK, hD0, hN⟩ := hv₀
  have hx₀ := B.exec
  have hb := B.bytes
  have hr := B.returns
  have hts := atoms_spec (ws := (kW yX11_copy cX11_copy 8 (some .int))) B.pre
  have hts := fun w h => hts w (List.mem_cons_of_mem _ h)
  have hown : s₀.vm.findClass RX11 = some m₀.cls := findClass_of_methodNamed B.named
  have hlocks := B.notSynchronized
  subst hsz
  have hD := hD0.self (sz := s₀.heap.size)
  generalize hAe : va_A [(hx, .inr (10, [.ref aLa, .ref aPa, .ref aGe, .ref aFl, .ref aTr, .ref aBe, .ref aLu, .ref aLo, .ref vSf, .ref vSm, .ref vCo, .ref vSh, .int 0, .int 0, .int 0])), (vSh, .inl (cQ, 4, .inr (.inr (.inr (.inr (fSh s0 s1 s2 s3)))))), (s0, .inr (8, [.ref i0, .int 1, .int 0, .int 0])), (s1, .inr (8, [.ref i1, .int 1, .int 0, .int 0])), (s2, .inr (8, [.ref i2, .int 1, .int 0, .int 0])), (s3, .inr (8, [.ref i3, .int 1, .int 0, .int 0]))] s₀.heap.size = A at hD ⊢
  have hA : ∀ q : Nat, s₀.heap.size ≤ q → A q := fun q h => by rw [← hAe]; exact Or.inr h
  have hS : va_S A s₀.heap s₀.heap [] := va_S.rf
  have hP : va_P (dC, dI) vwCl [(hx, .inr (10, [.ref aLa, .ref aPa, .ref aGe, .ref aFl, .ref aTr, .ref aBe, .ref aLu, .ref aLo, .ref vSf, .ref vSm, .ref vCo, .ref vSh, .int 0, .int 0, .int 0])), (vSh, .inl (cQ, 4, .inr (.inr (.inr (.inr (fSh s0 s1 s2 s3)))))), (s0, .inr (8, [.ref i0, .int 1, .int 0, .int 0])), (s1, .inr (8, [.ref i1, .int 1, .int 0, .int 0])), (s2, .inr (8, [.ref i2, .int 1, .int 0, .int 0])), (s3, .inr (8, [.ref i3, .int 1, .int 0, .int 0]))] s₀.heap := hP
  have hl := lv_entry ([.ref hx, .int s, .int i, .int t, .int j, .int n]) (n := 8) (Nat.le_of_ble_eq_true rfl)
  rw [lg_entry_eq]
  generalize (lg_sl ([.ref hx, .int s, .int i, .int t, .int j, .int n]) ++ List.replicate (8 - (lg_sl ([.ref hx, .int s, .int i, .int t, .int j, .int n])).length) Slot.unset).toArray = ls at hl ⊢
  have hl : lv_has ls 8 [(0, .ref hx), (1, .int s), (2, .int i), (3, .int t), (4, .int j), (5, .int n)] := hl
  obtain ⟨H, hH⟩ : ∃ z : Heap, z = s₀.heap := ⟨_, rfl⟩
  rw [← hH] at hP
  have hS : va_S A s₀.heap H [] := by rw [hH]; exact hS
  refine k_heap hH ?_
  have hD : va_D A [(hx, .inr (10, [.ref aLa, .ref aPa, .ref aGe, .ref aFl, .ref aTr, .ref aBe, .ref aLu, .ref aLo, .ref vSf, .ref vSm, .ref vCo, .ref vSh, .int 0, .int 0, .int 0])), (vSh, .inl (cQ, 4, .inr (.inr (.inr (.inr (fSh s0 s1 s2 s3)))))), (s0, .inr (8, [.ref i0, .int 1, .int 0, .int 0])), (s1, .inr (8, [.ref i1, .int 1, .int 0, .int 0])), (s2, .inr (8, [.ref i2, .int 1, .int 0, .int 0])), (s3, .inr (8, [.ref i3, .int 1, .int 0, .int 0]))] := hD
  obtain ⟨locs, hlo⟩ : ∃ z : List Loc, z = [] := ⟨_, rfl⟩
  rw [← hlo] at hS ⊢
  clear hlo hH hAe hD0
  refine lv_aload_n hx₀ hb dX11_copy_0 rfl (lv_at hl 0 rfl) ?_
  refine lv_iload_n hx₀ hb dX11_copy_1 rfl (lv_at hl 1 rfl) ?_
  have hPc := hP.sub (ws' := [(hx, .inr (10, [.ref aLa, .ref aPa, .ref aGe, .ref aFl, .ref aTr, .ref aBe, .ref aLu, .ref aLo, .ref vSf, .ref vSm, .ref vCo, .ref vSh, .int 0, .int 0, .int 0])), (vSh, .inl (cQ, 4, .inr (.inr (.inr (.inr (fSh s0 s1 s2 s3))))))]) [0, 1] rfl
  have hDc := hD.sub (ws' := [(hx, .inr (10, [.ref aLa, .ref aPa, .ref aGe, .ref aFl, .ref aTr, .ref aBe, .ref aLu, .ref aLo, .ref vSf, .ref vSm, .ref vCo, .ref vSh, .int 0, .int 0, .int 0])), (vSh, .inl (cQ, 4, .inr (.inr (.inr (.inr (fSh s0 s1 s2 s3))))))]) [0, 1] (by decide) rfl
  have hFc := va_free (wc := [(hx, .inr (10, [.ref aLa, .ref aPa, .ref aGe, .ref aFl, .ref aTr, .ref aBe, .ref aLu, .ref aLo, .ref vSf, .ref vSm, .ref vCo, .ref vSh, .int 0, .int 0, .int 0])), (vSh, .inl (cQ, 4, .inr (.inr (.inr (.inr (fSh s0 s1 s2 s3))))))]) hD hS hA [0, 1] rfl
  refine va_callq (va_runV (As := [.int s]) (rest := []) ⟨hx₀, hb, hml, hown, hts⟩ (c_sheetOf l dC dI cI cJ cQ H.size hx s aLa aPa aGe aFl aTr aBe aLu aLo vSf vSm vCo vSh s0 s1 s2 s3) (cwV 1 hts (kGV wd_383 wd_380 wd_381 wd_382 wd_2) rfl rfl rfl (by decide +kernel) ⟨Nat.le_of_ble_eq_true rfl, Nat.le_of_ble_eq_true rfl⟩) (k_preV (ci := 10) (q0 := 0) hK hPc hDc hN rfl rfl) rfl rfl hl.1 rfl (lv_room (Nat.le_of_ble_eq_true rfl)) dX11_copy_2 ⟨by decide +kernel, by decide +kernel⟩) hS (fun q _ h => hFc q h) hFc (fun r_1 u₀ t₀ H1 locs ht hvm hw hB hz1 hk1 hS => ?_)
  obtain ⟨hP1, hK1, hD1⟩ := hB
  rw [ht] at hP1
  obtain ⟨hP, hD⟩ := va_join (wr := [(s0, .inr (8, [.ref i0, .int 1, .int 0, .int 0])), (s1, .inr (8, [.ref i1, .int 1, .int 0, .int 0])), (s2, .inr (8, [.ref i2, .int 1, .int 0, .int 0])), (s3, .inr (8, [.ref i3, .int 1, .int 0, .int 0]))]) (w1 := [(hx, .inr (10, [.ref aLa, .ref aPa, .ref aGe, .ref aFl, .ref aTr, .ref aBe, .ref aLu, .ref aLo, .ref vSf, .ref vSm, .ref vCo, .ref vSh, .int 0, .int 0, .int 0])), (vSh, .inl (cQ, 4, .inr (.inr (.inr (.inr (fSh s0 s1 s2 s3))))))]) hP hD [0, 1] [2, 3, 4, 5] rfl rfl (by decide) (by decide) hk1 hFc hP1 hD1
  generalize H1 = H at hP hS ⊢
  have hP : va_P (dC, dI) vwCl [(s0, .inr (8, [.ref i0, .int 1, .int 0, .int 0])), (s1, .inr (8, [.ref i1, .int 1, .int 0, .int 0])), (s2, .inr (8, [.ref i2, .int 1, .int 0, .int 0])), (s3, .inr (8, [.ref i3, .int 1, .int 0, .int 0])), (hx, .inr (10, [.ref aLa, .ref aPa, .ref aGe, .ref aFl, .ref aTr, .ref aBe, .ref aLu, .ref aLo, .ref vSf, .ref vSm, .ref vCo, .ref vSh, .int 0, .int 0, .int 0])), (vSh, .inl (cQ, 4, .inr (.inr (.inr (.inr (fSh s0 s1 s2 s3))))))] H := hP
  have hD : va_D A [(s0, .inr (8, [.ref i0, .int 1, .int 0, .int 0])), (s1, .inr (8, [.ref i1, .int 1, .int 0, .int 0])), (s2, .inr (8, [.ref i2, .int 1, .int 0, .int 0])), (s3, .inr (8, [.ref i3, .int 1, .int 0, .int 0])), (hx, .inr (10, [.ref aLa, .ref aPa, .ref aGe, .ref aFl, .ref aTr, .ref aBe, .ref aLu, .ref aLo, .ref vSf, .ref vSm, .ref vCo, .ref vSh, .int 0, .int 0, .int 0])), (vSh, .inl (cQ, 4, .inr (.inr (.inr (.inr (fSh s0 s1 s2 s3))))))] := hD
  try dsimp only at hw
  by_cases c_2 : s = 0
  · rw [if_pos c_2] at hw
    subst hw
    refine W.eq (g2 := F0 m₀ 5 ls [.ref s0]) rfl ?_
    refine lv_astore (lv' := [(6, .ref s0), (0, .ref hx), (1, .int s), (2, .int i), (3, .int t), (4, .int j), (5, .int n)]) hx₀ hb dX11_copy_5 hl (by decide) rfl (fun ls hl => ?_)
    refine lv_aload_n hx₀ hb dX11_copy_7 rfl (lv_at hl 1 rfl) ?_
    refine lv_iload_n hx₀ hb dX11_copy_8 rfl (lv_at hl 4 rfl) ?_
    have hPc := hP.sub (ws' := [(hx, .inr (10, [.ref aLa, .ref aPa, .ref aGe, .ref aFl, .ref aTr, .ref aBe, .ref aLu, .ref aLo, .ref vSf, .ref vSm, .ref vCo, .ref vSh, .int 0, .int 0, .int 0])), (vSh, .inl (cQ, 4, .inr (.inr (.inr (.inr (fSh s0 s1 s2 s3))))))]) [4, 5] rfl
    have hDc := hD.sub (ws' := [(hx, .inr (10, [.ref aLa, .ref aPa, .ref aGe, .ref aFl, .ref aTr, .ref aBe, .ref aLu, .ref aLo, .ref vSf, .ref vSm, .ref vCo, .ref vSh, .int 0, .int 0, .int 0])), (vSh, .inl (cQ, 4, .inr (.inr (.inr (.inr (fSh s0 s1 s2 s3))))))]) [4, 5] (by decide) rfl
    have hFc := va_free (wc := [(hx, .inr (10, [.ref aLa, .ref aPa, .ref aGe, .ref aFl, .ref aTr, .ref aBe, .ref aLu, .ref aLo, .ref vSf, .ref vSm, .ref vCo, .ref vSh, .int 0, .int 0, .int 0])), (vSh, .inl (cQ, 4, .inr (.inr (.inr (.inr (fSh s0 s1 s2 s3))))))]) hD hS hA [4, 5] rfl
    refine va_callq (va_runV (As := [.int t]) (rest := []) ⟨hx₀, hb, hml, hown, hts⟩ (c_sheetOf l dC dI cI cJ cQ H.size hx t aLa aPa aGe aFl aTr aBe aLu aLo vSf vSm vCo vSh s0 s1 s2 s3) (cwV 1 hts (kGV wd_383 wd_380 wd_381 wd_382 wd_2) rfl rfl rfl (by decide +kernel) ⟨Nat.le_of_ble_eq_true rfl, Nat.le_of_ble_eq_true rfl⟩) (k_preV (ci := 10) (q0 := 0) hK hPc hDc hN rfl rfl) rfl rfl hl.1 rfl (lv_room (Nat.le_of_ble_eq_true rfl)) dX11_copy_9 ⟨by decide +kernel, by decide +kernel⟩) hS (fun q _ h => hFc q h) hFc (fun r_3 u₀ t₀ H1 locs ht hvm hw hB hz1 hk1 hS => ?_)
    obtain ⟨hP1, hK1, hD1⟩ := hB
    rw [ht] at hP1
    obtain ⟨hP, hD⟩ := va_join (wr := [(s0, .inr (8, [.ref i0, .int 1, .int 0, .int 0])), (s1, .inr (8, [.ref i1, .int 1, .int 0, .int 0])), (s2, .inr (8, [.ref i2, .int 1, .int 0, .int 0])), (s3, .inr (8, [.ref i3, .int 1, .int 0, .int 0]))]) (w1 := [(hx, .inr (10, [.ref aLa, .ref aPa, .ref aGe, .ref aFl, .ref aTr, .ref aBe, .ref aLu, .ref aLo, .ref vSf, .ref vSm, .ref vCo, .ref vSh, .int 0, .int 0, .int 0])), (vSh, .inl (cQ, 4, .inr (.inr (.inr (.inr (fSh s0 s1 s2 s3))))))]) hP hD [4, 5] [0, 1, 2, 3] rfl rfl (by decide) (by decide) hk1 hFc hP1 hD1
    generalize H1 = H at hP hS ⊢
    have hP : va_P (dC, dI) vwCl [(s0, .inr (8, [.ref i0, .int 1, .int 0, .int 0])), (s1, .inr (8, [.ref i1, .int 1, .int 0, .int 0])), (s2, .inr (8, [.ref i2, .int 1, .int 0, .int 0])), (s3, .inr (8, [.ref i3, .int 1, .int 0, .int 0])), (hx, .inr (10, [.ref aLa, .ref aPa, .ref aGe, .ref aFl, .ref aTr, .ref aBe, .ref aLu, .ref aLo, .ref vSf, .ref vSm, .ref vCo, .ref vSh, .int 0, .int 0, .int 0])), (vSh, .inl (cQ, 4, .inr (.inr (.inr (.inr (fSh s0 s1 s2 s3))))))] H := hP
    have hD : va_D A [(s0, .inr (8, [.ref i0, .int 1, .int 0, .int 0])), (s1, .inr (8, [.ref i1, .int 1, .int 0, .int 0])), (s2, .inr (8, [.ref i2, .int 1, .int 0, .int 0])), (s3, .inr (8, [.ref i3, .int 1, .int 0, .int 0])), (hx, .inr (10, [.ref aLa, .ref aPa, .ref aGe, .ref aFl, .ref aTr, .ref aBe, .ref aLu, .ref aLo, .ref vSf, .ref vSm, .ref vCo, .ref vSh, .int 0, .int 0, .int 0])), (vSh, .inl (cQ, 4, .inr (.inr (.inr (.inr (fSh s0 s1 s2 s3))))))] := hD
    try dsimp only at hw
    by_cases c_4 : t = 0
    · rw [if_pos c_4] at hw
      subst hw
      refine W.eq (g2 := F0 m₀ 12 ls [.ref s0]) rfl ?_
      refine lv_astore (lv' := [(7, .ref s0), (6, .ref s0), (0, .ref hx), (1, .int s), (2, .int i), (3, .int t), (4, .int j), (5, .int n)]) hx₀ hb dX11_copy_12 hl (by decide) rfl (fun ls hl => ?_)
      refine lv_aload hx₀ hb dX11_copy_14 (lv_at hl 1 rfl) ?_
      refine lv_ifnull hx₀ hb dX11_copy_16 ?_
      refine lv_aload hx₀ hb dX11_copy_19 (lv_at hl 0 rfl) ?_
      refine lv_ifnonnull (tgt := 27) hx₀ hb dX11_copy_21 (by decide) ?_
      refine lv_aload hx₀ hb dX11_copy_27 (lv_at hl 1 rfl) ?_
      refine va_get (D := (dC, dI)) (ci := 8) (v := .int 1) (C := RX8) (T := TX8) (N := 4) hx₀ hb hts inlX8 hown hK hP 0 rfl rfl 1 (by decide) (hts (.fieldLink RX11 133 "BittenStick$Sheet" "isLost" "Z") wd_378) (fun _ h9 => h9) rfl dX11_copy_29 ?_
      refine lv_if_ne (tgt := 43) hx₀ hb dX11_copy_32 (by decide) (fun _ => ?_) (fun c9 => absurd c9 (by decide +kernel))
      refine lv_aload_n hx₀ hb dX11_copy_43 rfl (lv_at hl 2 rfl) ?_
      refine lv_iconst (v := 1) hx₀ hb dX11_copy_44 (by decide +kernel) ?_
      have hPc := hP.sub (ws' := [(hx, .inr (10, [.ref aLa, .ref aPa, .ref aGe, .ref aFl, .ref aTr, .ref aBe, .ref aLu, .ref aLo, .ref vSf, .ref vSm, .ref vCo, .ref vSh, .int 0, .int 0, .int 0]))]) [4] rfl
      have hDc := hD.sub (ws' := [(hx, .inr (10, [.ref aLa, .ref aPa, .ref aGe, .ref aFl, .ref aTr, .ref aBe, .ref aLu, .ref aLo, .ref vSf, .ref vSm, .ref vCo, .ref vSh, .int 0, .int 0, .int 0]))]) [4] (by decide) rfl
      have hFc := va_free (wc := [(hx, .inr (10, [.ref aLa, .ref aPa, .ref aGe, .ref aFl, .ref aTr, .ref aBe, .ref aLu, .ref aLo, .ref vSf, .ref vSm, .ref vCo, .ref vSh, .int 0, .int 0, .int 0]))]) hD hS hA [4] rfl
      refine va_calli (va_runV (As := [.int 1]) (rest := []) ⟨hx₀, hb, hml, hown, hts⟩ (c_found1 l dC dI cI cJ cQ H.size hx aLa aPa aGe aFl aTr aBe aLu aLo vSf vSm vCo vSh) (cwV 1 hts (kGV wd_387 wd_384 wd_385 wd_386 wd_2) rfl rfl rfl (by decide +kernel) ⟨Nat.le_of_ble_eq_true rfl, Nat.le_of_ble_eq_true rfl⟩) (k_preV (ci := 10) (q0 := 0) hK hPc hDc hN rfl rfl) rfl rfl hl.1 rfl (lv_room (Nat.le_of_ble_eq_true rfl)) dX11_copy_45 ⟨by decide +kernel, by decide +kernel⟩) hS (fun q _ h => hFc q h) hFc (fun r_5 u₀ t₀ H1 locs ht hvm hw hB hz1 hk1 hS => ?_)
      obtain ⟨hP1, hK1, hD1⟩ := hB
      rw [ht] at hP1
      obtain ⟨hP, hD⟩ := va_join (wr := [(s0, .inr (8, [.ref i0, .int 1, .int 0, .int 0])), (s1, .inr (8, [.ref i1, .int 1, .int 0, .int 0])), (s2, .inr (8, [.ref i2, .int 1, .int 0, .int 0])), (s3, .inr (8, [.ref i3, .int 1, .int 0, .int 0])), (vSh, .inl (cQ, 4, .inr (.inr (.inr (.inr (fSh s0 s1 s2 s3))))))]) (w1 := [(hx, .inr (10, [.ref aLa, .ref aPa, .ref aGe, .ref aFl, .ref aTr, .ref aBe, .ref aLu, .ref aLo, .ref vSf, .ref vSm, .ref vCo, .ref vSh, .int 0, .int 0, .int 1]))]) hP hD [4] [0, 1, 2, 3, 5] rfl rfl (by decide) (by decide) hk1 hFc hP1 hD1
      generalize H1 = H at hP hS ⊢
      have hP : va_P (dC, dI) vwCl [(s0, .inr (8, [.ref i0, .int 1, .int 0, .int 0])), (s1, .inr (8, [.ref i1, .int 1, .int 0, .int 0])), (s2, .inr (8, [.ref i2, .int 1, .int 0, .int 0])), (s3, .inr (8, [.ref i3, .int 1, .int 0, .int 0])), (vSh, .inl (cQ, 4, .inr (.inr (.inr (.inr (fSh s0 s1 s2 s3)))))), (hx, .inr (10, [.ref aLa, .ref aPa, .ref aGe, .ref aFl, .ref aTr, .ref aBe, .ref aLu, .ref aLo, .ref vSf, .ref vSm, .ref vCo, .ref vSh, .int 0, .int 0, .int 1]))] H := hP
      have hD : va_D A [(s0, .inr (8, [.ref i0, .int 1, .int 0, .int 0])), (s1, .inr (8, [.ref i1, .int 1, .int 0, .int 0])), (s2, .inr (8, [.ref i2, .int 1, .int 0, .int 0])), (s3, .inr (8, [.ref i3, .int 1, .int 0, .int 0])), (vSh, .inl (cQ, 4, .inr (.inr (.inr (.inr (fSh s0 s1 s2 s3)))))), (hx, .inr (10, [.ref aLa, .ref aPa, .ref aGe, .ref aFl, .ref aTr, .ref aBe, .ref aLu, .ref aLo, .ref vSf, .ref vSm, .ref vCo, .ref vSh, .int 0, .int 0, .int 1]))] := hD
      try dsimp only at hw
      refine k_topi (v := (-11)) hw ?_
      exact W.iret (v := (-11)) hx₀ hb hr (fun t₀ ht hW => ⟨⟨(-11), (), rfl, (lf_x_copy_1 s t c_2 c_4), trivial⟩, hS.F ht⟩) hS.2.2 dX11_copy_48
    rw [if_neg c_4] at hw
    by_cases c_6 : t = 1
    · rw [if_pos c_6] at hw
      subst hw
      refine W.eq (g2 := F0 m₀ 12 ls [.ref s1]) rfl ?_
      refine lv_astore (lv' := [(7, .ref s1), (6, .ref s0), (0, .ref hx), (1, .int s), (2, .int i), (3, .int t), (4, .int j), (5, .int n)]) hx₀ hb dX11_copy_12 hl (by decide) rfl (fun ls hl => ?_)
      refine lv_aload hx₀ hb dX11_copy_14 (lv_at hl 1 rfl) ?_
      refine lv_ifnull hx₀ hb dX11_copy_16 ?_
      refine lv_aload hx₀ hb dX11_copy_19 (lv_at hl 0 rfl) ?_
      refine lv_ifnonnull (tgt := 27) hx₀ hb dX11_copy_21 (by decide) ?_
      refine lv_aload hx₀ hb dX11_copy_27 (lv_at hl 1 rfl) ?_
      refine va_get (D := (dC, dI)) (ci := 8) (v := .int 1) (C := RX8) (T := TX8) (N := 4) hx₀ hb hts inlX8 hown hK hP 0 rfl rfl 1 (by decide) (hts (.fieldLink RX11 133 "BittenStick$Sheet" "isLost" "Z") wd_378) (fun _ h9 => h9) rfl dX11_copy_29 ?_
      refine lv_if_ne (tgt := 43) hx₀ hb dX11_copy_32 (by decide) (fun _ => ?_) (fun c9 => absurd c9 (by decide +kernel))
      refine lv_aload_n hx₀ hb dX11_copy_43 rfl (lv_at hl 2 rfl) ?_
      refine lv_iconst (v := 1) hx₀ hb dX11_copy_44 (by decide +kernel) ?_
      have hPc := hP.sub (ws' := [(hx, .inr (10, [.ref aLa, .ref aPa, .ref aGe, .ref aFl, .ref aTr, .ref aBe, .ref aLu, .ref aLo, .ref vSf, .ref vSm, .ref vCo, .ref vSh, .int 0, .int 0, .int 0]))]) [4] rfl
      have hDc := hD.sub (ws' := [(hx, .inr (10, [.ref aLa, .ref aPa, .ref aGe, .ref aFl, .ref aTr, .ref aBe, .ref aLu, .ref aLo, .ref vSf, .ref vSm, .ref vCo, .ref vSh, .int 0, .int 0, .int 0]))]) [4] (by decide) rfl
      have hFc := va_free (wc := [(hx, .inr (10, [.ref aLa, .ref aPa, .ref aGe, .ref aFl, .ref aTr, .ref aBe, .ref aLu, .ref aLo, .ref vSf, .ref vSm, .ref vCo, .ref vSh, .int 0, .int 0, .int 0]))]) hD hS hA [4] rfl
      refine va_calli (va_runV (As := [.int 1]) (rest := []) ⟨hx₀, hb, hml, hown, hts⟩ (c_found1 l dC dI cI cJ cQ H.size hx aLa aPa aGe aFl aTr aBe aLu aLo vSf vSm vCo vSh) (cwV 1 hts (kGV wd_387 wd_384 wd_385 wd_386 wd_2) rfl rfl rfl (by decide +kernel) ⟨Nat.le_of_ble_eq_true rfl, Nat.le_of_ble_eq_true rfl⟩) (k_preV (ci := 10) (q0 := 0) hK hPc hDc hN rfl rfl) rfl rfl hl.1 rfl (lv_room (Nat.le_of_ble_eq_true rfl)) dX11_copy_45 ⟨by decide +kernel, by decide +kernel⟩) hS (fun q _ h => hFc q h) hFc (fun r_7 u₀ t₀ H1 locs ht hvm hw hB hz1 hk1 hS => ?_)
      obtain ⟨hP1, hK1, hD1⟩ := hB
      rw [ht] at hP1
      obtain ⟨hP, hD⟩ := va_join (wr := [(s0, .inr (8, [.ref i0, .int 1, .int 0, .int 0])), (s1, .inr (8, [.ref i1, .int 1, .int 0, .int 0])), (s2, .inr (8, [.ref i2, .int 1, .int 0, .int 0])), (s3, .inr (8, [.ref i3, .int 1, .int 0, .int 0])), (vSh, .inl (cQ, 4, .inr (.inr (.inr (.inr (fSh s0 s1 s2 s3))))))]) (w1 := [(hx, .inr (10, [.ref aLa, .ref aPa, .ref aGe, .ref aFl, .ref aTr, .ref aBe, .ref aLu, .ref aLo, .ref vSf, .ref vSm, .ref vCo, .ref vSh, .int 0, .int 0, .int 1]))]) hP hD [4] [0, 1, 2, 3, 5] rfl rfl (by decide) (by decide) hk1 hFc hP1 hD1
      generalize H1 = H at hP hS ⊢
      have hP : va_P (dC, dI) vwCl [(s0, .inr (8, [.ref i0, .int 1, .int 0, .int 0])), (s1, .inr (8, [.ref i1, .int 1, .int 0, .int 0])), (s2, .inr (8, [.ref i2, .int 1, .int 0, .int 0])), (s3, .inr (8, [.ref i3, .int 1, .int 0, .int 0])), (vSh, .inl (cQ, 4, .inr (.inr (.inr (.inr (fSh s0 s1 s2 s3)))))), (hx, .inr (10, [.ref aLa, .ref aPa, .ref aGe, .ref aFl, .ref aTr, .ref aBe, .ref aLu, .ref aLo, .ref vSf, .ref vSm, .ref vCo, .ref vSh, .int 0, .int 0, .int 1]))] H := hP
      have hD : va_D A [(s0, .inr (8, [.ref i0, .int 1, .int 0, .int 0])), (s1, .inr (8, [.ref i1, .int 1, .int 0, .int 0])), (s2, .inr (8, [.ref i2, .int 1, .int 0, .int 0])), (s3, .inr (8, [.ref i3, .int 1, .int 0, .int 0])), (vSh, .inl (cQ, 4, .inr (.inr (.inr (.inr (fSh s0 s1 s2 s3)))))), (hx, .inr (10, [.ref aLa, .ref aPa, .ref aGe, .ref aFl, .ref aTr, .ref aBe, .ref aLu, .ref aLo, .ref vSf, .ref vSm, .ref vCo, .ref vSh, .int 0, .int 0, .int 1]))] := hD
      try dsimp only at hw
      refine k_topi (v := (-11)) hw ?_
      exact W.iret (v := (-11)) hx₀ hb hr (fun t₀ ht hW => ⟨⟨(-11), (), rfl, (lf_x_copy_2 s t c_2 c_4 c_6), trivial⟩, hS.F ht⟩) hS.2.2 dX11_copy_48
    rw [if_neg c_6] at hw
    by_cases c_8 : t = 2
    · rw [if_pos c_8] at hw
      subst hw
      refine W.eq (g2 := F0 m₀ 12 ls [.ref s2]) rfl ?_
      refine lv_astore (lv' := [(7, .ref s2), (6, .ref s0), (0, .ref hx), (1, .int s), (2, .int i), (3, .int t), (4, .int j), (5, .int n)]) hx₀ hb dX11_copy_12 hl (by decide) rfl (fun ls hl => ?_)
      refine lv_aload hx₀ hb dX11_copy_14 (lv_at hl 1 rfl) ?_
      refine lv_ifnull hx₀ hb dX11_copy_16 ?_
      refine lv_aload hx₀ hb dX11_copy_19 (lv_at hl 0 rfl) ?_
      refine lv_ifnonnull (tgt := 27) hx₀ hb dX11_copy_21 (by decide) ?_
      refine lv_aload hx₀ hb dX11_copy_27 (lv_at hl 1 rfl) ?_
      refine va_get (D := (dC, dI)) (ci := 8) (v := .int 1) (C := RX8) (T := TX8) (N := 4) hx₀ hb hts inlX8 hown hK hP 0 rfl rfl 1 (by decide) (hts (.fieldLink RX11 133 "BittenStick$Sheet" "isLost" "Z") wd_378) (fun _ h9 => h9) rfl dX11_copy_29 ?_
      refine lv_if_ne (tgt := 43) hx₀ hb dX11_copy_32 (by decide) (fun _ => ?_) (fun c9 => absurd c9 (by decide +kernel))
      refine lv_aload_n hx₀ hb dX11_copy_43 rfl (lv_at hl 2 rfl) ?_
      refine lv_iconst (v := 1) hx₀ hb dX11_copy_44 (by decide +kernel) ?_
      have hPc := hP.sub (ws' := [(hx, .inr (10, [.ref aLa, .ref aPa, .ref aGe, .ref aFl, .ref aTr, .ref aBe, .ref aLu, .ref aLo, .ref vSf, .ref vSm, .ref vCo, .ref vSh, .int 0, .int 0, .int 0]))]) [4] rfl
      have hDc := hD.sub (ws' := [(hx, .inr (10, [.ref aLa, .ref aPa, .ref aGe, .ref aFl, .ref aTr, .ref aBe, .ref aLu, .ref aLo, .ref vSf, .ref vSm, .ref vCo, .ref vSh, .int 0, .int 0, .int 0]))]) [4] (by decide) rfl
      have hFc := va_free (wc := [(hx, .inr (10, [.ref aLa, .ref aPa, .ref aGe, .ref aFl, .ref aTr, .ref aBe, .ref aLu, .ref aLo, .ref vSf, .ref vSm, .ref vCo, .ref vSh, .int 0, .int 0, .int 0]))]) hD hS hA [4] rfl
      refine va_calli (va_runV (As := [.int 1]) (rest := []) ⟨hx₀, hb, hml, hown, hts⟩ (c_found1 l dC dI cI cJ cQ H.size hx aLa aPa aGe aFl aTr aBe aLu aLo vSf vSm vCo vSh) (cwV 1 hts (kGV wd_387 wd_384 wd_385 wd_386 wd_2) rfl rfl rfl (by decide +kernel) ⟨Nat.le_of_ble_eq_true rfl, Nat.le_of_ble_eq_true rfl⟩) (k_preV (ci := 10) (q0 := 0) hK hPc hDc hN rfl rfl) rfl rfl hl.1 rfl (lv_room (Nat.le_of_ble_eq_true rfl)) dX11_copy_45 ⟨by decide +kernel, by decide +kernel⟩) hS (fun q _ h => hFc q h) hFc (fun r_9 u₀ t₀ H1 locs ht hvm hw hB hz1 hk1 hS => ?_)
      obtain ⟨hP1, hK1, hD1⟩ := hB
      rw [ht] at hP1
      obtain ⟨hP, hD⟩ := va_join (wr := [(s0, .inr (8, [.ref i0, .int 1, .int 0, .int 0])), (s1, .inr (8, [.ref i1, .int 1, .int 0, .int 0])), (s2, .inr (8, [.ref i2, .int 1, .int 0, .int 0])), (s3, .inr (8, [.ref i3, .int 1, .int 0, .int 0])), (vSh, .inl (cQ, 4, .inr (.inr (.inr (.inr (fSh s0 s1 s2 s3))))))]) (w1 := [(hx, .inr (10, [.ref aLa, .ref aPa, .ref aGe, .ref aFl, .ref aTr, .ref aBe, .ref aLu, .ref aLo, .ref vSf, .ref vSm, .ref vCo, .ref vSh, .int 0, .int 0, .int 1]))]) hP hD [4] [0, 1, 2, 3, 5] rfl rfl (by decide) (by decide) hk1 hFc hP1 hD1
      generalize H1 = H at hP hS ⊢
      have hP : va_P (dC, dI) vwCl [(s0, .inr (8, [.ref i0, .int 1, .int 0, .int 0])), (s1, .inr (8, [.ref i1, .int 1, .int 0, .int 0])), (s2, .inr (8, [.ref i2, .int 1, .int 0, .int 0])), (s3, .inr (8, [.ref i3, .int 1, .int 0, .int 0])), (vSh, .inl (cQ, 4, .inr (.inr (.inr (.inr (fSh s0 s1 s2 s3)))))), (hx, .inr (10, [.ref aLa, .ref aPa, .ref aGe, .ref aFl, .ref aTr, .ref aBe, .ref aLu, .ref aLo, .ref vSf, .ref vSm, .ref vCo, .ref vSh, .int 0, .int 0, .int 1]))] H := hP
      have hD : va_D A [(s0, .inr (8, [.ref i0, .int 1, .int 0, .int 0])), (s1, .inr (8, [.ref i1, .int 1, .int 0, .int 0])), (s2, .inr (8, [.ref i2, .int 1, .int 0, .int 0])), (s3, .inr (8, [.ref i3, .int 1, .int 0, .int 0])), (vSh, .inl (cQ, 4, .inr (.inr (.inr (.inr (fSh s0 s1 s2 s3)))))), (hx, .inr (10, [.ref aLa, .ref aPa, .ref aGe, .ref aFl, .ref aTr, .ref aBe, .ref aLu, .ref aLo, .ref vSf, .ref vSm, .ref vCo, .ref vSh, .int 0, .int 0, .int 1]))] := hD
      try dsimp only at hw
      refine k_topi (v := (-11)) hw ?_
      exact W.iret (v := (-11)) hx₀ hb hr (fun t₀ ht hW => ⟨⟨(-11), (), rfl, (lf_x_copy_3 s t c_2 c_4 c_6 c_8), trivial⟩, hS.F ht⟩) hS.2.2 dX11_copy_48
    rw [if_neg c_8] at hw
    by_cases c_10 : t = 3
    · rw [if_pos c_10] at hw
      subst hw
      refine W.eq (g2 := F0 m₀ 12 ls [.ref s3]) rfl ?_
      refine lv_astore (lv' := [(7, .ref s3), (6, .ref s0), (0, .ref hx), (1, .int s), (2, .int i), (3, .int t), (4, .int j), (5, .int n)]) hx₀ hb dX11_copy_12 hl (by decide) rfl (fun ls hl => ?_)
      refine lv_aload hx₀ hb dX11_copy_14 (lv_at hl 1 rfl) ?_
      refine lv_ifnull hx₀ hb dX11_copy_16 ?_
      refine lv_aload hx₀ hb dX11_copy_19 (lv_at hl 0 rfl) ?_
      refine lv_ifnonnull (tgt := 27) hx₀ hb dX11_copy_21 (by decide) ?_
      refine lv_aload hx₀ hb dX11_copy_27 (lv_at hl 1 rfl) ?_
      refine va_get (D := (dC, dI)) (ci := 8) (v := .int 1) (C := RX8) (T := TX8) (N := 4) hx₀ hb hts inlX8 hown hK hP 0 rfl rfl 1 (by decide) (hts (.fieldLink RX11 133 "BittenStick$Sheet" "isLost" "Z") wd_378) (fun _ h9 => h9) rfl dX11_copy_29 ?_
      refine lv_if_ne (tgt := 43) hx₀ hb dX11_copy_32 (by decide) (fun _ => ?_) (fun c9 => absurd c9 (by decide +kernel))
      refine lv_aload_n hx₀ hb dX11_copy_43 rfl (lv_at hl 2 rfl) ?_
      refine lv_iconst (v := 1) hx₀ hb dX11_copy_44 (by decide +kernel) ?_
      have hPc := hP.sub (ws' := [(hx, .inr (10, [.ref aLa, .ref aPa, .ref aGe, .ref aFl, .ref aTr, .ref aBe, .ref aLu, .ref aLo, .ref vSf, .ref vSm, .ref vCo, .ref vSh, .int 0, .int 0, .int 0]))]) [4] rfl
      have hDc := hD.sub (ws' := [(hx, .inr (10, [.ref aLa, .ref aPa, .ref aGe, .ref aFl, .ref aTr, .ref aBe, .ref aLu, .ref aLo, .ref vSf, .ref vSm, .ref vCo, .ref vSh, .int 0, .int 0, .int 0]))]) [4] (by decide) rfl
      have hFc := va_free (wc := [(hx, .inr (10, [.ref aLa, .ref aPa, .ref aGe, .ref aFl, .ref aTr, .ref aBe, .ref aLu, .ref aLo, .ref vSf, .ref vSm, .ref vCo, .ref vSh, .int 0, .int 0, .int 0]))]) hD hS hA [4] rfl
      refine va_calli (va_runV (As := [.int 1]) (rest := []) ⟨hx₀, hb, hml, hown, hts⟩ (c_found1 l dC dI cI cJ cQ H.size hx aLa aPa aGe aFl aTr aBe aLu aLo vSf vSm vCo vSh) (cwV 1 hts (kGV wd_387 wd_384 wd_385 wd_386 wd_2) rfl rfl rfl (by decide +kernel) ⟨Nat.le_of_ble_eq_true rfl, Nat.le_of_ble_eq_true rfl⟩) (k_preV (ci := 10) (q0 := 0) hK hPc hDc hN rfl rfl) rfl rfl hl.1 rfl (lv_room (Nat.le_of_ble_eq_true rfl)) dX11_copy_45 ⟨by decide +kernel, by decide +kernel⟩) hS (fun q _ h => hFc q h) hFc (fun r_11 u₀ t₀ H1 locs ht hvm hw hB hz1 hk1 hS => ?_)
      obtain ⟨hP1, hK1, hD1⟩ := hB
      rw [ht] at hP1
      obtain ⟨hP, hD⟩ := va_join (wr := [(s0, .inr (8, [.ref i0, .int 1, .int 0, .int 0])), (s1, .inr (8, [.ref i1, .int 1, .int 0, .int 0])), (s2, .inr (8, [.ref i2, .int 1, .int 0, .int 0])), (s3, .inr (8, [.ref i3, .int 1, .int 0, .int 0])), (vSh, .inl (cQ, 4, .inr (.inr (.inr (.inr (fSh s0 s1 s2 s3))))))]) (w1 := [(hx, .inr (10, [.ref aLa, .ref aPa, .ref aGe, .ref aFl, .ref aTr, .ref aBe, .ref aLu, .ref aLo, .ref vSf, .ref vSm, .ref vCo, .ref vSh, .int 0, .int 0, .int 1]))]) hP hD [4] [0, 1, 2, 3, 5] rfl rfl (by decide) (by decide) hk1 hFc hP1 hD1
      generalize H1 = H at hP hS ⊢
      have hP : va_P (dC, dI) vwCl [(s0, .inr (8, [.ref i0, .int 1, .int 0, .int 0])), (s1, .inr (8, [.ref i1, .int 1, .int 0, .int 0])), (s2, .inr (8, [.ref i2, .int 1, .int 0, .int 0])), (s3, .inr (8, [.ref i3, .int 1, .int 0, .int 0])), (vSh, .inl (cQ, 4, .inr (.inr (.inr (.inr (fSh s0 s1 s2 s3)))))), (hx, .inr (10, [.ref aLa, .ref aPa, .ref aGe, .ref aFl, .ref aTr, .ref aBe, .ref aLu, .ref aLo, .ref vSf, .ref vSm, .ref vCo, .ref vSh, .int 0, .int 0, .int 1]))] H := hP
      have hD : va_D A [(s0, .inr (8, [.ref i0, .int 1, .int 0, .int 0])), (s1, .inr (8, [.ref i1, .int 1, .int 0, .int 0])), (s2, .inr (8, [.ref i2, .int 1, .int 0, .int 0])), (s3, .inr (8, [.ref i3, .int 1, .int 0, .int 0])), (vSh, .inl (cQ, 4, .inr (.inr (.inr (.inr (fSh s0 s1 s2 s3)))))), (hx, .inr (10, [.ref aLa, .ref aPa, .ref aGe, .ref aFl, .ref aTr, .ref aBe, .ref aLu, .ref aLo, .ref vSf, .ref vSm, .ref vCo, .ref vSh, .int 0, .int 0, .int 1]))] := hD
      try dsimp only at hw
      refine k_topi (v := (-11)) hw ?_
      exact W.iret (v := (-11)) hx₀ hb hr (fun t₀ ht hW => ⟨⟨(-11), (), rfl, (lf_x_copy_4 s t c_2 c_4 c_6 c_8 c_10), trivial⟩, hS.F ht⟩) hS.2.2 dX11_copy_48
    rw [if_neg c_10] at hw
    subst hw
    refine W.eq (g2 := F0 m₀ 12 ls [.null]) rfl ?_
    refine lv_astoreN (lv' := [(7, .null), (6, .ref s0), (0, .ref hx), (1, .int s), (2, .int i), (3, .int t), (4, .int j), (5, .int n)]) hx₀ hb dX11_copy_12 hl (by decide) rfl (fun ls hl => ?_)
    refine lv_aload hx₀ hb dX11_copy_14 (lv_at hl 1 rfl) ?_
    refine lv_ifnull hx₀ hb dX11_copy_16 ?_
    refine lv_aloadN hx₀ hb dX11_copy_19 (lv_at hl 0 rfl) ?_
    refine lv_ifnonnullN hx₀ hb dX11_copy_21 ?_
    refine lv_bipush (v := (-2)) hx₀ hb dX11_copy_24 (by decide +kernel) ?_
    exact W.iret (v := (-2)) hx₀ hb hr (fun t₀ ht hW => ⟨⟨(-2), (), rfl, (lf_x_copy_5 s t c_2 c_4 c_6 c_8 c_10), trivial⟩, hS.F ht⟩) hS.2.2 dX11_copy_26
  rw [if_neg c_2] at hw
  by_cases c_12 : s = 1
  · rw [if_pos c_12] at hw
    subst hw
    refine W.eq (g2 := F0 m₀ 5 ls [.ref s1]) rfl ?_
    refine lv_astore (lv' := [(6, .ref s1), (0, .ref hx), (1, .int s), (2, .int i), (3, .int t), (4, .int j), (5, .int n)]) hx₀ hb dX11_copy_5 hl (by decide) rfl (fun ls hl => ?_)
    refine lv_aload_n hx₀ hb dX11_copy_7 rfl (lv_at hl 1 rfl) ?_
    refine lv_iload_n hx₀ hb dX11_copy_8 rfl (lv_at hl 4 rfl) ?_
    have hPc := hP.sub (ws' := [(hx, .inr (10, [.ref aLa, .ref aPa, .ref aGe, .ref aFl, .ref aTr, .ref aBe, .ref aLu, .ref aLo, .ref vSf, .ref vSm, .ref vCo, .ref vSh, .int 0, .int 0, .int 0])), (vSh, .inl (cQ, 4, .inr (.inr (.inr (.inr (fSh s0 s1 s2 s3))))))]) [4, 5] rfl
    have hDc := hD.sub (ws' := [(hx, .inr (10, [.ref aLa, .ref aPa, .ref aGe, .ref aFl, .ref aTr, .ref aBe, .ref aLu, .ref aLo, .ref vSf, .ref vSm, .ref vCo, .ref vSh, .int 0, .int 0, .int 0])), (vSh, .inl (cQ, 4, .inr (.inr (.inr (.inr (fSh s0 s1 s2 s3))))))]) [4, 5] (by decide) rfl
    have hFc := va_free (wc := [(hx, .inr (10, [.ref aLa, .ref aPa, .ref aGe, .ref aFl, .ref aTr, .ref aBe, .ref aLu, .ref aLo, .ref vSf, .ref vSm, .ref vCo, .ref vSh, .int 0, .int 0, .int 0])), (vSh, .inl (cQ, 4, .inr (.inr (.inr (.inr (fSh s0 s1 s2 s3))))))]) hD hS hA [4, 5] rfl
    refine va_callq (va_runV (As := [.int t]) (rest := []) ⟨hx₀, hb, hml, hown, hts⟩ (c_sheetOf l dC dI cI cJ cQ H.size hx t aLa aPa aGe aFl aTr aBe aLu aLo vSf vSm vCo vSh s0 s1 s2 s3) (cwV 1 hts (kGV wd_383 wd_380 wd_381 wd_382 wd_2) rfl rfl rfl (by decide +kernel) ⟨Nat.le_of_ble_eq_true rfl, Nat.le_of_ble_eq_true rfl⟩) (k_preV (ci := 10) (q0 := 0) hK hPc hDc hN rfl rfl) rfl rfl hl.1 rfl (lv_room (Nat.le_of_ble_eq_true rfl)) dX11_copy_9 ⟨by decide +kernel, by decide +kernel⟩) hS (fun q _ h => hFc q h) hFc (fun r_13 u₀ t₀ H1 locs ht hvm hw hB hz1 hk1 hS => ?_)
    obtain ⟨hP1, hK1, hD1⟩ := hB
    rw [ht] at hP1
    obtain ⟨hP, hD⟩ := va_join (wr := [(s0, .inr (8, [.ref i0, .int 1, .int 0, .int 0])), (s1, .inr (8, [.ref i1, .int 1, .int 0, .int 0])), (s2, .inr (8, [.ref i2, .int 1, .int 0, .int 0])), (s3, .inr (8, [.ref i3, .int 1, .int 0, .int 0]))]) (w1 := [(hx, .inr (10, [.ref aLa, .ref aPa, .ref aGe, .ref aFl, .ref aTr, .ref aBe, .ref aLu, .ref aLo, .ref vSf, .ref vSm, .ref vCo, .ref vSh, .int 0, .int 0, .int 0])), (vSh, .inl (cQ, 4, .inr (.inr (.inr (.inr (fSh s0 s1 s2 s3))))))]) hP hD [4, 5] [0, 1, 2, 3] rfl rfl (by decide) (by decide) hk1 hFc hP1 hD1
    generalize H1 = H at hP hS ⊢
    have hP : va_P (dC, dI) vwCl [(s0, .inr (8, [.ref i0, .int 1, .int 0, .int 0])), (s1, .inr (8, [.ref i1, .int 1, .int 0, .int 0])), (s2, .inr (8, [.ref i2, .int 1, .int 0, .int 0])), (s3, .inr (8, [.ref i3, .int 1, .int 0, .int 0])), (hx, .inr (10, [.ref aLa, .ref aPa, .ref aGe, .ref aFl, .ref aTr, .ref aBe, .ref aLu, .ref aLo, .ref vSf, .ref vSm, .ref vCo, .ref vSh, .int 0, .int 0, .int 0])), (vSh, .inl (cQ, 4, .inr (.inr (.inr (.inr (fSh s0 s1 s2 s3))))))] H := hP
    have hD : va_D A [(s0, .inr (8, [.ref i0, .int 1, .int 0, .int 0])), (s1, .inr (8, [.ref i1, .int 1, .int 0, .int 0])), (s2, .inr (8, [.ref i2, .int 1, .int 0, .int 0])), (s3, .inr (8, [.ref i3, .int 1, .int 0, .int 0])), (hx, .inr (10, [.ref aLa, .ref aPa, .ref aGe, .ref aFl, .ref aTr, .ref aBe, .ref aLu, .ref aLo, .ref vSf, .ref vSm, .ref vCo, .ref vSh, .int 0, .int 0, .int 0])), (vSh, .inl (cQ, 4, .inr (.inr (.inr (.inr (fSh s0 s1 s2 s3))))))] := hD
    try dsimp only at hw
    by_cases c_14 : t = 0
    · rw [if_pos c_14] at hw
      subst hw
      refine W.eq (g2 := F0 m₀ 12 ls [.ref s0]) rfl ?_
      refine lv_astore (lv' := [(7, .ref s0), (6, .ref s1), (0, .ref hx), (1, .int s), (2, .int i), (3, .int t), (4, .int j), (5, .int n)]) hx₀ hb dX11_copy_12 hl (by decide) rfl (fun ls hl => ?_)
      refine lv_aload hx₀ hb dX11_copy_14 (lv_at hl 1 rfl) ?_
      refine lv_ifnull hx₀ hb dX11_copy_16 ?_
      refine lv_aload hx₀ hb dX11_copy_19 (lv_at hl 0 rfl) ?_
      refine lv_ifnonnull (tgt := 27) hx₀ hb dX11_copy_21 (by decide) ?_
      refine lv_aload hx₀ hb dX11_copy_27 (lv_at hl 1 rfl) ?_
      refine va_get (D := (dC, dI)) (ci := 8) (v := .int 1) (C := RX8) (T := TX8) (N := 4) hx₀ hb hts inlX8 hown hK hP 1 rfl rfl 1 (by decide) (hts (.fieldLink RX11 133 "BittenStick$Sheet" "isLost" "Z") wd_378) (fun _ h9 => h9) rfl dX11_copy_29 ?_
      refine lv_if_ne (tgt := 43) hx₀ hb dX11_copy_32 (by decide) (fun _ => ?_) (fun c9 => absurd c9 (by decide +kernel))
      refine lv_aload_n hx₀ hb dX11_copy_43 rfl (lv_at hl 2 rfl) ?_
      refine lv_iconst (v := 1) hx₀ hb dX11_copy_44 (by decide +kernel) ?_
      have hPc := hP.sub (ws' := [(hx, .inr (10, [.ref aLa, .ref aPa, .ref aGe, .ref aFl, .ref aTr, .ref aBe, .ref aLu, .ref aLo, .ref vSf, .ref vSm, .ref vCo, .ref vSh, .int 0, .int 0, .int 0]))]) [4] rfl
      have hDc := hD.sub (ws' := [(hx, .inr (10, [.ref aLa, .ref aPa, .ref aGe, .ref aFl, .ref aTr, .ref aBe, .ref aLu, .ref aLo, .ref vSf, .ref vSm, .ref vCo, .ref vSh, .int 0, .int 0, .int 0]))]) [4] (by decide) rfl
      have hFc := va_free (wc := [(hx, .inr (10, [.ref aLa, .ref aPa, .ref aGe, .ref aFl, .ref aTr, .ref aBe, .ref aLu, .ref aLo, .ref vSf, .ref vSm, .ref vCo, .ref vSh, .int 0, .int 0, .int 0]))]) hD hS hA [4] rfl
      refine va_calli (va_runV (As := [.int 1]) (rest := []) ⟨hx₀, hb, hml, hown, hts⟩ (c_found1 l dC dI cI cJ cQ H.size hx aLa aPa aGe aFl aTr aBe aLu aLo vSf vSm vCo vSh) (cwV 1 hts (kGV wd_387 wd_384 wd_385 wd_386 wd_2) rfl rfl rfl (by decide +kernel) ⟨Nat.le_of_ble_eq_true rfl, Nat.le_of_ble_eq_true rfl⟩) (k_preV (ci := 10) (q0 := 0) hK hPc hDc hN rfl rfl) rfl rfl hl.1 rfl (lv_room (Nat.le_of_ble_eq_true rfl)) dX11_copy_45 ⟨by decide +kernel, by decide +kernel⟩) hS (fun q _ h => hFc q h) hFc (fun r_15 u₀ t₀ H1 locs ht hvm hw hB hz1 hk1 hS => ?_)
      obtain ⟨hP1, hK1, hD1⟩ := hB
      rw [ht] at hP1
      obtain ⟨hP, hD⟩ := va_join (wr := [(s0, .inr (8, [.ref i0, .int 1, .int 0, .int 0])), (s1, .inr (8, [.ref i1, .int 1, .int 0, .int 0])), (s2, .inr (8, [.ref i2, .int 1, .int 0, .int 0])), (s3, .inr (8, [.ref i3, .int 1, .int 0, .int 0])), (vSh, .inl (cQ, 4, .inr (.inr (.inr (.inr (fSh s0 s1 s2 s3))))))]) (w1 := [(hx, .inr (10, [.ref aLa, .ref aPa, .ref aGe, .ref aFl, .ref aTr, .ref aBe, .ref aLu, .ref aLo, .ref vSf, .ref vSm, .ref vCo, .ref vSh, .int 0, .int 0, .int 1]))]) hP hD [4] [0, 1, 2, 3, 5] rfl rfl (by decide) (by decide) hk1 hFc hP1 hD1
      generalize H1 = H at hP hS ⊢
      have hP : va_P (dC, dI) vwCl [(s0, .inr (8, [.ref i0, .int 1, .int 0, .int 0])), (s1, .inr (8, [.ref i1, .int 1, .int 0, .int 0])), (s2, .inr (8, [.ref i2, .int 1, .int 0, .int 0])), (s3, .inr (8, [.ref i3, .int 1, .int 0, .int 0])), (vSh, .inl (cQ, 4, .inr (.inr (.inr (.inr (fSh s0 s1 s2 s3)))))), (hx, .inr (10, [.ref aLa, .ref aPa, .ref aGe, .ref aFl, .ref aTr, .ref aBe, .ref aLu, .ref aLo, .ref vSf, .ref vSm, .ref vCo, .ref vSh, .int 0, .int 0, .int 1]))] H := hP
      have hD : va_D A [(s0, .inr (8, [.ref i0, .int 1, .int 0, .int 0])), (s1, .inr (8, [.ref i1, .int 1, .int 0, .int 0])), (s2, .inr (8, [.ref i2, .int 1, .int 0, .int 0])), (s3, .inr (8, [.ref i3, .int 1, .int 0, .int 0])), (vSh, .inl (cQ, 4, .inr (.inr (.inr (.inr (fSh s0 s1 s2 s3)))))), (hx, .inr (10, [.ref aLa, .ref aPa, .ref aGe, .ref aFl, .ref aTr, .ref aBe, .ref aLu, .ref aLo, .ref vSf, .ref vSm, .ref vCo, .ref vSh, .int 0, .int 0, .int 1]))] := hD
      try dsimp only at hw
      refine k_topi (v := (-11)) hw ?_
      exact W.iret (v := (-11)) hx₀ hb hr (fun t₀ ht hW => ⟨⟨(-11), (), rfl, (lf_x_copy_6 s t c_2 c_12 c_14), trivial⟩, hS.F ht⟩) hS.2.2 dX11_copy_48
    rw [if_neg c_14] at hw
    by_cases c_16 : t = 1
    · rw [if_pos c_16] at hw
      subst hw
      refine W.eq (g2 := F0 m₀ 12 ls [.ref s1]) rfl ?_
      refine lv_astore (lv' := [(7, .ref s1), (6, .ref s1), (0, .ref hx), (1, .int s), (2, .int i), (3, .int t), (4, .int j), (5, .int n)]) hx₀ hb dX11_copy_12 hl (by decide) rfl (fun ls hl => ?_)
      refine lv_aload hx₀ hb dX11_copy_14 (lv_at hl 1 rfl) ?_
      refine lv_ifnull hx₀ hb dX11_copy_16 ?_
      refine lv_aload hx₀ hb dX11_copy_19 (lv_at hl 0 rfl) ?_
      refine lv_ifnonnull (tgt := 27) hx₀ hb dX11_copy_21 (by decide) ?_
      refine lv_aload hx₀ hb dX11_copy_27 (lv_at hl 1 rfl) ?_
      refine va_get (D := (dC, dI)) (ci := 8) (v := .int 1) (C := RX8) (T := TX8) (N := 4) hx₀ hb hts inlX8 hown hK hP 1 rfl rfl 1 (by decide) (hts (.fieldLink RX11 133 "BittenStick$Sheet" "isLost" "Z") wd_378) (fun _ h9 => h9) rfl dX11_copy_29 ?_
      refine lv_if_ne (tgt := 43) hx₀ hb dX11_copy_32 (by decide) (fun _ => ?_) (fun c9 => absurd c9 (by decide +kernel))
      refine lv_aload_n hx₀ hb dX11_copy_43 rfl (lv_at hl 2 rfl) ?_
      refine lv_iconst (v := 1) hx₀ hb dX11_copy_44 (by decide +kernel) ?_
      have hPc := hP.sub (ws' := [(hx, .inr (10, [.ref aLa, .ref aPa, .ref aGe, .ref aFl, .ref aTr, .ref aBe, .ref aLu, .ref aLo, .ref vSf, .ref vSm, .ref vCo, .ref vSh, .int 0, .int 0, .int 0]))]) [4] rfl
      have hDc := hD.sub (ws' := [(hx, .inr (10, [.ref aLa, .ref aPa, .ref aGe, .ref aFl, .ref aTr, .ref aBe, .ref aLu, .ref aLo, .ref vSf, .ref vSm, .ref vCo, .ref vSh, .int 0, .int 0, .int 0]))]) [4] (by decide) rfl
      have hFc := va_free (wc := [(hx, .inr (10, [.ref aLa, .ref aPa, .ref aGe, .ref aFl, .ref aTr, .ref aBe, .ref aLu, .ref aLo, .ref vSf, .ref vSm, .ref vCo, .ref vSh, .int 0, .int 0, .int 0]))]) hD hS hA [4] rfl
      refine va_calli (va_runV (As := [.int 1]) (rest := []) ⟨hx₀, hb, hml, hown, hts⟩ (c_found1 l dC dI cI cJ cQ H.size hx aLa aPa aGe aFl aTr aBe aLu aLo vSf vSm vCo vSh) (cwV 1 hts (kGV wd_387 wd_384 wd_385 wd_386 wd_2) rfl rfl rfl (by decide +kernel) ⟨Nat.le_of_ble_eq_true rfl, Nat.le_of_ble_eq_true rfl⟩) (k_preV (ci := 10) (q0 := 0) hK hPc hDc hN rfl rfl) rfl rfl hl.1 rfl (lv_room (Nat.le_of_ble_eq_true rfl)) dX11_copy_45 ⟨by decide +kernel, by decide +kernel⟩) hS (fun q _ h => hFc q h) hFc (fun r_17 u₀ t₀ H1 locs ht hvm hw hB hz1 hk1 hS => ?_)
      obtain ⟨hP1, hK1, hD1⟩ := hB
      rw [ht] at hP1
      obtain ⟨hP, hD⟩ := va_join (wr := [(s0, .inr (8, [.ref i0, .int 1, .int 0, .int 0])), (s1, .inr (8, [.ref i1, .int 1, .int 0, .int 0])), (s2, .inr (8, [.ref i2, .int 1, .int 0, .int 0])), (s3, .inr (8, [.ref i3, .int 1, .int 0, .int 0])), (vSh, .inl (cQ, 4, .inr (.inr (.inr (.inr (fSh s0 s1 s2 s3))))))]) (w1 := [(hx, .inr (10, [.ref aLa, .ref aPa, .ref aGe, .ref aFl, .ref aTr, .ref aBe, .ref aLu, .ref aLo, .ref vSf, .ref vSm, .ref vCo, .ref vSh, .int 0, .int 0, .int 1]))]) hP hD [4] [0, 1, 2, 3, 5] rfl rfl (by decide) (by decide) hk1 hFc hP1 hD1
      generalize H1 = H at hP hS ⊢
      have hP : va_P (dC, dI) vwCl [(s0, .inr (8, [.ref i0, .int 1, .int 0, .int 0])), (s1, .inr (8, [.ref i1, .int 1, .int 0, .int 0])), (s2, .inr (8, [.ref i2, .int 1, .int 0, .int 0])), (s3, .inr (8, [.ref i3, .int 1, .int 0, .int 0])), (vSh, .inl (cQ, 4, .inr (.inr (.inr (.inr (fSh s0 s1 s2 s3)))))), (hx, .inr (10, [.ref aLa, .ref aPa, .ref aGe, .ref aFl, .ref aTr, .ref aBe, .ref aLu, .ref aLo, .ref vSf, .ref vSm, .ref vCo, .ref vSh, .int 0, .int 0, .int 1]))] H := hP
      have hD : va_D A [(s0, .inr (8, [.ref i0, .int 1, .int 0, .int 0])), (s1, .inr (8, [.ref i1, .int 1, .int 0, .int 0])), (s2, .inr (8, [.ref i2, .int 1, .int 0, .int 0])), (s3, .inr (8, [.ref i3, .int 1, .int 0, .int 0])), (vSh, .inl (cQ, 4, .inr (.inr (.inr (.inr (fSh s0 s1 s2 s3)))))), (hx, .inr (10, [.ref aLa, .ref aPa, .ref aGe, .ref aFl, .ref aTr, .ref aBe, .ref aLu, .ref aLo, .ref vSf, .ref vSm, .ref vCo, .ref vSh, .int 0, .int 0, .int 1]))] := hD
      try dsimp only at hw
      refine k_topi (v := (-11)) hw ?_
      exact W.iret (v := (-11)) hx₀ hb hr (fun t₀ ht hW => ⟨⟨(-11), (), rfl, (lf_x_copy_7 s t c_2 c_12 c_14 c_16), trivial⟩, hS.F ht⟩) hS.2.2 dX11_copy_48
    rw [if_neg c_16] at hw
    by_cases c_18 : t = 2
    · rw [if_pos c_18] at hw
      subst hw
      refine W.eq (g2 := F0 m₀ 12 ls [.ref s2]) rfl ?_
      refine lv_astore (lv' := [(7, .ref s2), (6, .ref s1), (0, .ref hx), (1, .int s), (2, .int i), (3, .int t), (4, .int j), (5, .int n)]) hx₀ hb dX11_copy_12 hl (by decide) rfl (fun ls hl => ?_)
      refine lv_aload hx₀ hb dX11_copy_14 (lv_at hl 1 rfl) ?_
      refine lv_ifnull hx₀ hb dX11_copy_16 ?_
      refine lv_aload hx₀ hb dX11_copy_19 (lv_at hl 0 rfl) ?_
      refine lv_ifnonnull (tgt := 27) hx₀ hb dX11_copy_21 (by decide) ?_
      refine lv_aload hx₀ hb dX11_copy_27 (lv_at hl 1 rfl) ?_
      refine va_get (D := (dC, dI)) (ci := 8) (v := .int 1) (C := RX8) (T := TX8) (N := 4) hx₀ hb hts inlX8 hown hK hP 1 rfl rfl 1 (by decide) (hts (.fieldLink RX11 133 "BittenStick$Sheet" "isLost" "Z") wd_378) (fun _ h9 => h9) rfl dX11_copy_29 ?_
      refine lv_if_ne (tgt := 43) hx₀ hb dX11_copy_32 (by decide) (fun _ => ?_) (fun c9 => absurd c9 (by decide +kernel))
      refine lv_aload_n hx₀ hb dX11_copy_43 rfl (lv_at hl 2 rfl) ?_
      refine lv_iconst (v := 1) hx₀ hb dX11_copy_44 (by decide +kernel) ?_
      have hPc := hP.sub (ws' := [(hx, .inr (10, [.ref aLa, .ref aPa, .ref aGe, .ref aFl, .ref aTr, .ref aBe, .ref aLu, .ref aLo, .ref vSf, .ref vSm, .ref vCo, .ref vSh, .int 0, .int 0, .int 0]))]) [4] rfl
      have hDc := hD.sub (ws' := [(hx, .inr (10, [.ref aLa, .ref aPa, .ref aGe, .ref aFl, .ref aTr, .ref aBe, .ref aLu, .ref aLo, .ref vSf, .ref vSm, .ref vCo, .ref vSh, .int 0, .int 0, .int 0]))]) [4] (by decide) rfl
      have hFc := va_free (wc := [(hx, .inr (10, [.ref aLa, .ref aPa, .ref aGe, .ref aFl, .ref aTr, .ref aBe, .ref aLu, .ref aLo, .ref vSf, .ref vSm, .ref vCo, .ref vSh, .int 0, .int 0, .int 0]))]) hD hS hA [4] rfl
      refine va_calli (va_runV (As := [.int 1]) (rest := []) ⟨hx₀, hb, hml, hown, hts⟩ (c_found1 l dC dI cI cJ cQ H.size hx aLa aPa aGe aFl aTr aBe aLu aLo vSf vSm vCo vSh) (cwV 1 hts (kGV wd_387 wd_384 wd_385 wd_386 wd_2) rfl rfl rfl (by decide +kernel) ⟨Nat.le_of_ble_eq_true rfl, Nat.le_of_ble_eq_true rfl⟩) (k_preV (ci := 10) (q0 := 0) hK hPc hDc hN rfl rfl) rfl rfl hl.1 rfl (lv_room (Nat.le_of_ble_eq_true rfl)) dX11_copy_45 ⟨by decide +kernel, by decide +kernel⟩) hS (fun q _ h => hFc q h) hFc (fun r_19 u₀ t₀ H1 locs ht hvm hw hB hz1 hk1 hS => ?_)
      obtain ⟨hP1, hK1, hD1⟩ := hB
      rw [ht] at hP1
      obtain ⟨hP, hD⟩ := va_join (wr := [(s0, .inr (8, [.ref i0, .int 1, .int 0, .int 0])), (s1, .inr (8, [.ref i1, .int 1, .int 0, .int 0])), (s2, .inr (8, [.ref i2, .int 1, .int 0, .int 0])), (s3, .inr (8, [.ref i3, .int 1, .int 0, .int 0])), (vSh, .inl (cQ, 4, .inr (.inr (.inr (.inr (fSh s0 s1 s2 s3))))))]) (w1 := [(hx, .inr (10, [.ref aLa, .ref aPa, .ref aGe, .ref aFl, .ref aTr, .ref aBe, .ref aLu, .ref aLo, .ref vSf, .ref vSm, .ref vCo, .ref vSh, .int 0, .int 0, .int 1]))]) hP hD [4] [0, 1, 2, 3, 5] rfl rfl (by decide) (by decide) hk1 hFc hP1 hD1
      generalize H1 = H at hP hS ⊢
      have hP : va_P (dC, dI) vwCl [(s0, .inr (8, [.ref i0, .int 1, .int 0, .int 0])), (s1, .inr (8, [.ref i1, .int 1, .int 0, .int 0])), (s2, .inr (8, [.ref i2, .int 1, .int 0, .int 0])), (s3, .inr (8, [.ref i3, .int 1, .int 0, .int 0])), (vSh, .inl (cQ, 4, .inr (.inr (.inr (.inr (fSh s0 s1 s2 s3)))))), (hx, .inr (10, [.ref aLa, .ref aPa, .ref aGe, .ref aFl, .ref aTr, .ref aBe, .ref aLu, .ref aLo, .ref vSf, .ref vSm, .ref vCo, .ref vSh, .int 0, .int 0, .int 1]))] H := hP
      have hD : va_D A [(s0, .inr (8, [.ref i0, .int 1, .int 0, .int 0])), (s1, .inr (8, [.ref i1, .int 1, .int 0, .int 0])), (s2, .inr (8, [.ref i2, .int 1, .int 0, .int 0])), (s3, .inr (8, [.ref i3, .int 1, .int 0, .int 0])), (vSh, .inl (cQ, 4, .inr (.inr (.inr (.inr (fSh s0 s1 s2 s3)))))), (hx, .inr (10, [.ref aLa, .ref aPa, .ref aGe, .ref aFl, .ref aTr, .ref aBe, .ref aLu, .ref aLo, .ref vSf, .ref vSm, .ref vCo, .ref vSh, .int 0, .int 0, .int 1]))] := hD
      try dsimp only at hw
      refine k_topi (v := (-11)) hw ?_
      exact W.iret (v := (-11)) hx₀ hb hr (fun t₀ ht hW => ⟨⟨(-11), (), rfl, (lf_x_copy_8 s t c_2 c_12 c_14 c_16 c_18), trivial⟩, hS.F ht⟩) hS.2.2 dX11_copy_48
    rw [if_neg c_18] at hw
    by_cases c_20 : t = 3
    · rw [if_pos c_20] at hw
      subst hw
      refine W.eq (g2 := F0 m₀ 12 ls [.ref s3]) rfl ?_
      refine lv_astore (lv' := [(7, .ref s3), (6, .ref s1), (0, .ref hx), (1, .int s), (2, .int i), (3, .int t), (4, .int j), (5, .int n)]) hx₀ hb dX11_copy_12 hl (by decide) rfl (fun ls hl => ?_)
      refine lv_aload hx₀ hb dX11_copy_14 (lv_at hl 1 rfl) ?_
      refine lv_ifnull hx₀ hb dX11_copy_16 ?_
      refine lv_aload hx₀ hb dX11_copy_19 (lv_at hl 0 rfl) ?_
      refine lv_ifnonnull (tgt := 27) hx₀ hb dX11_copy_21 (by decide) ?_
      refine lv_aload hx₀ hb dX11_copy_27 (lv_at hl 1 rfl) ?_
      refine va_get (D := (dC, dI)) (ci := 8) (v := .int 1) (C := RX8) (T := TX8) (N := 4) hx₀ hb hts inlX8 hown hK hP 1 rfl rfl 1 (by decide) (hts (.fieldLink RX11 133 "BittenStick$Sheet" "isLost" "Z") wd_378) (fun _ h9 => h9) rfl dX11_copy_29 ?_
      refine lv_if_ne (tgt := 43) hx₀ hb dX11_copy_32 (by decide) (fun _ => ?_) (fun c9 => absurd c9 (by decide +kernel))
      refine lv_aload_n hx₀ hb dX11_copy_43 rfl (lv_at hl 2 rfl) ?_
      refine lv_iconst (v := 1) hx₀ hb dX11_copy_44 (by decide +kernel) ?_
      have hPc := hP.sub (ws' := [(hx, .inr (10, [.ref aLa, .ref aPa, .ref aGe, .ref aFl, .ref aTr, .ref aBe, .ref aLu, .ref aLo, .ref vSf, .ref vSm, .ref vCo, .ref vSh, .int 0, .int 0, .int 0]))]) [4] rfl
      have hDc := hD.sub (ws' := [(hx, .inr (10, [.ref aLa, .ref aPa, .ref aGe, .ref aFl, .ref aTr, .ref aBe, .ref aLu, .ref aLo, .ref vSf, .ref vSm, .ref vCo, .ref vSh, .int 0, .int 0, .int 0]))]) [4] (by decide) rfl
      have hFc := va_free (wc := [(hx, .inr (10, [.ref aLa, .ref aPa, .ref aGe, .ref aFl, .ref aTr, .ref aBe, .ref aLu, .ref aLo, .ref vSf, .ref vSm, .ref vCo, .ref vSh, .int 0, .int 0, .int 0]))]) hD hS hA [4] rfl
      refine va_calli (va_runV (As := [.int 1]) (rest := []) ⟨hx₀, hb, hml, hown, hts⟩ (c_found1 l dC dI cI cJ cQ H.size hx aLa aPa aGe aFl aTr aBe aLu aLo vSf vSm vCo vSh) (cwV 1 hts (kGV wd_387 wd_384 wd_385 wd_386 wd_2) rfl rfl rfl (by decide +kernel) ⟨Nat.le_of_ble_eq_true rfl, Nat.le_of_ble_eq_true rfl⟩) (k_preV (ci := 10) (q0 := 0) hK hPc hDc hN rfl rfl) rfl rfl hl.1 rfl (lv_room (Nat.le_of_ble_eq_true rfl)) dX11_copy_45 ⟨by decide +kernel, by decide +kernel⟩) hS (fun q _ h => hFc q h) hFc (fun r_21 u₀ t₀ H1 locs ht hvm hw hB hz1 hk1 hS => ?_)
      obtain ⟨hP1, hK1, hD1⟩ := hB
      rw [ht] at hP1
      obtain ⟨hP, hD⟩ := va_join (wr := [(s0, .inr (8, [.ref i0, .int 1, .int 0, .int 0])), (s1, .inr (8, [.ref i1, .int 1, .int 0, .int 0])), (s2, .inr (8, [.ref i2, .int 1, .int 0, .int 0])), (s3, .inr (8, [.ref i3, .int 1, .int 0, .int 0])), (vSh, .inl (cQ, 4, .inr (.inr (.inr (.inr (fSh s0 s1 s2 s3))))))]) (w1 := [(hx, .inr (10, [.ref aLa, .ref aPa, .ref aGe, .ref aFl, .ref aTr, .ref aBe, .ref aLu, .ref aLo, .ref vSf, .ref vSm, .ref vCo, .ref vSh, .int 0, .int 0, .int 1]))]) hP hD [4] [0, 1, 2, 3, 5] rfl rfl (by decide) (by decide) hk1 hFc hP1 hD1
      generalize H1 = H at hP hS ⊢
      have hP : va_P (dC, dI) vwCl [(s0, .inr (8, [.ref i0, .int 1, .int 0, .int 0])), (s1, .inr (8, [.ref i1, .int 1, .int 0, .int 0])), (s2, .inr (8, [.ref i2, .int 1, .int 0, .int 0])), (s3, .inr (8, [.ref i3, .int 1, .int 0, .int 0])), (vSh, .inl (cQ, 4, .inr (.inr (.inr (.inr (fSh s0 s1 s2 s3)))))), (hx, .inr (10, [.ref aLa, .ref aPa, .ref aGe, .ref aFl, .ref aTr, .ref aBe, .ref aLu, .ref aLo, .ref vSf, .ref vSm, .ref vCo, .ref vSh, .int 0, .int 0, .int 1]))] H := hP
      have hD : va_D A [(s0, .inr (8, [.ref i0, .int 1, .int 0, .int 0])), (s1, .inr (8, [.ref i1, .int 1, .int 0, .int 0])), (s2, .inr (8, [.ref i2, .int 1, .int 0, .int 0])), (s3, .inr (8, [.ref i3, .int 1, .int 0, .int 0])), (vSh, .inl (cQ, 4, .inr (.inr (.inr (.inr (fSh s0 s1 s2 s3)))))), (hx, .inr (10, [.ref aLa, .ref aPa, .ref aGe, .ref aFl, .ref aTr, .ref aBe, .ref aLu, .ref aLo, .ref vSf, .ref vSm, .ref vCo, .ref vSh, .int 0, .int 0, .int 1]))] := hD
      try dsimp only at hw
      refine k_topi (v := (-11)) hw ?_
      exact W.iret (v := (-11)) hx₀ hb hr (fun t₀ ht hW => ⟨⟨(-11), (), rfl, (lf_x_copy_9 s t c_2 c_12 c_14 c_16 c_18 c_20), trivial⟩, hS.F ht⟩) hS.2.2 dX11_copy_48
    rw [if_neg c_20] at hw
    subst hw
    refine W.eq (g2 := F0 m₀ 12 ls [.null]) rfl ?_
    refine lv_astoreN (lv' := [(7, .null), (6, .ref s1), (0, .ref hx), (1, .int s), (2, .int i), (3, .int t), (4, .int j), (5, .int n)]) hx₀ hb dX11_copy_12 hl (by decide) rfl (fun ls hl => ?_)
    refine lv_aload hx₀ hb dX11_copy_14 (lv_at hl 1 rfl) ?_
    refine lv_ifnull hx₀ hb dX11_copy_16 ?_
    refine lv_aloadN hx₀ hb dX11_copy_19 (lv_at hl 0 rfl) ?_
    refine lv_ifnonnullN hx₀ hb dX11_copy_21 ?_
    refine lv_bipush (v := (-2)) hx₀ hb dX11_copy_24 (by decide +kernel) ?_
    exact W.iret (v := (-2)) hx₀ hb hr (fun t₀ ht hW => ⟨⟨(-2), (), rfl, (lf_x_copy_10 s t c_2 c_12 c_14 c_16 c_18 c_20), trivial⟩, hS.F ht⟩) hS.2.2 dX11_copy_26
  rw [if_neg c_12] at hw
  by_cases c_22 : s = 2
  · rw [if_pos c_22] at hw
    subst hw
    refine W.eq (g2 := F0 m₀ 5 ls [.ref s2]) rfl ?_
    refine lv_astore (lv' := [(6, .ref s2), (0, .ref hx), (1, .int s), (2, .int i), (3, .int t), (4, .int j), (5, .int n)]) hx₀ hb dX11_copy_5 hl (by decide) rfl (fun ls hl => ?_)
    refine lv_aload_n hx₀ hb dX11_copy_7 rfl (lv_at hl 1 rfl) ?_
    refine lv_iload_n hx₀ hb dX11_copy_8 rfl (lv_at hl 4 rfl) ?_
    have hPc := hP.sub (ws' := [(hx, .inr (10, [.ref aLa, .ref aPa, .ref aGe, .ref aFl, .ref aTr, .ref aBe, .ref aLu, .ref aLo, .ref vSf, .ref vSm, .ref vCo, .ref vSh, .int 0, .int 0, .int 0])), (vSh, .inl (cQ, 4, .inr (.inr (.inr (.inr (fSh s0 s1 s2 s3))))))]) [4, 5] rfl
    have hDc := hD.sub (ws' := [(hx, .inr (10, [.ref aLa, .ref aPa, .ref aGe, .ref aFl, .ref aTr, .ref aBe, .ref aLu, .ref aLo, .ref vSf, .ref vSm, .ref vCo, .ref vSh, .int 0, .int 0, .int 0])), (vSh, .inl (cQ, 4, .inr (.inr (.inr (.inr (fSh s0 s1 s2 s3))))))]) [4, 5] (by decide) rfl
    have hFc := va_free (wc := [(hx, .inr (10, [.ref aLa, .ref aPa, .ref aGe, .ref aFl, .ref aTr, .ref aBe, .ref aLu, .ref aLo, .ref vSf, .ref vSm, .ref vCo, .ref vSh, .int 0, .int 0, .int 0])), (vSh, .inl (cQ, 4, .inr (.inr (.inr (.inr (fSh s0 s1 s2 s3))))))]) hD hS hA [4, 5] rfl
    refine va_callq (va_runV (As := [.int t]) (rest := []) ⟨hx₀, hb, hml, hown, hts⟩ (c_sheetOf l dC dI cI cJ cQ H.size hx t aLa aPa aGe aFl aTr aBe aLu aLo vSf vSm vCo vSh s0 s1 s2 s3) (cwV 1 hts (kGV wd_383 wd_380 wd_381 wd_382 wd_2) rfl rfl rfl (by decide +kernel) ⟨Nat.le_of_ble_eq_true rfl, Nat.le_of_ble_eq_true rfl⟩) (k_preV (ci := 10) (q0 := 0) hK hPc hDc hN rfl rfl) rfl rfl hl.1 rfl (lv_room (Nat.le_of_ble_eq_true rfl)) dX11_copy_9 ⟨by decide +kernel, by decide +kernel⟩) hS (fun q _ h => hFc q h) hFc (fun r_23 u₀ t₀ H1 locs ht hvm hw hB hz1 hk1 hS => ?_)
    obtain ⟨hP1, hK1, hD1⟩ := hB
    rw [ht] at hP1
    obtain ⟨hP, hD⟩ := va_join (wr := [(s0, .inr (8, [.ref i0, .int 1, .int 0, .int 0])), (s1, .inr (8, [.ref i1, .int 1, .int 0, .int 0])), (s2, .inr (8, [.ref i2, .int 1, .int 0, .int 0])), (s3, .inr (8, [.ref i3, .int 1, .int 0, .int 0]))]) (w1 := [(hx, .inr (10, [.ref aLa, .ref aPa, .ref aGe, .ref aFl, .ref aTr, .ref aBe, .ref aLu, .ref aLo, .ref vSf, .ref vSm, .ref vCo, .ref vSh, .int 0, .int 0, .int 0])), (vSh, .inl (cQ, 4, .inr (.inr (.inr (.inr (fSh s0 s1 s2 s3))))))]) hP hD [4, 5] [0, 1, 2, 3] rfl rfl (by decide) (by decide) hk1 hFc hP1 hD1
    generalize H1 = H at hP hS ⊢
    have hP : va_P (dC, dI) vwCl [(s0, .inr (8, [.ref i0, .int 1, .int 0, .int 0])), (s1, .inr (8, [.ref i1, .int 1, .int 0, .int 0])), (s2, .inr (8, [.ref i2, .int 1, .int 0, .int 0])), (s3, .inr (8, [.ref i3, .int 1, .int 0, .int 0])), (hx, .inr (10, [.ref aLa, .ref aPa, .ref aGe, .ref aFl, .ref aTr, .ref aBe, .ref aLu, .ref aLo, .ref vSf, .ref vSm, .ref vCo, .ref vSh, .int 0, .int 0, .int 0])), (vSh, .inl (cQ, 4, .inr (.inr (.inr (.inr (fSh s0 s1 s2 s3))))))] H := hP
    have hD : va_D A [(s0, .inr (8, [.ref i0, .int 1, .int 0, .int 0])), (s1, .inr (8, [.ref i1, .int 1, .int 0, .int 0])), (s2, .inr (8, [.ref i2, .int 1, .int 0, .int 0])), (s3, .inr (8, [.ref i3, .int 1, .int 0, .int 0])), (hx, .inr (10, [.ref aLa, .ref aPa, .ref aGe, .ref aFl, .ref aTr, .ref aBe, .ref aLu, .ref aLo, .ref vSf, .ref vSm, .ref vCo, .ref vSh, .int 0, .int 0, .int 0])), (vSh, .inl (cQ, 4, .inr (.inr (.inr (.inr (fSh s0 s1 s2 s3))))))] := hD
    try dsimp only at hw
    by_cases c_24 : t = 0
    · rw [if_pos c_24] at hw
      subst hw
      refine W.eq (g2 := F0 m₀ 12 ls [.ref s0]) rfl ?_
      refine lv_astore (lv' := [(7, .ref s0), (6, .ref s2), (0, .ref hx), (1, .int s), (2, .int i), (3, .int t), (4, .int j), (5, .int n)]) hx₀ hb dX11_copy_12 hl (by decide) rfl (fun ls hl => ?_)
      refine lv_aload hx₀ hb dX11_copy_14 (lv_at hl 1 rfl) ?_
      refine lv_ifnull hx₀ hb dX11_copy_16 ?_
      refine lv_aload hx₀ hb dX11_copy_19 (lv_at hl 0 rfl) ?_
      refine lv_ifnonnull (tgt := 27) hx₀ hb dX11_copy_21 (by decide) ?_
      refine lv_aload hx₀ hb dX11_copy_27 (lv_at hl 1 rfl) ?_
      refine va_get (D := (dC, dI)) (ci := 8) (v := .int 1) (C := RX8) (T := TX8) (N := 4) hx₀ hb hts inlX8 hown hK hP 2 rfl rfl 1 (by decide) (hts (.fieldLink RX11 133 "BittenStick$Sheet" "isLost" "Z") wd_378) (fun _ h9 => h9) rfl dX11_copy_29 ?_
      refine lv_if_ne (tgt := 43) hx₀ hb dX11_copy_32 (by decide) (fun _ => ?_) (fun c9 => absurd c9 (by decide +kernel))
      refine lv_aload_n hx₀ hb dX11_copy_43 rfl (lv_at hl 2 rfl) ?_
      refine lv_iconst (v := 1) hx₀ hb dX11_copy_44 (by decide +kernel) ?_
      have hPc := hP.sub (ws' := [(hx, .inr (10, [.ref aLa, .ref aPa, .ref aGe, .ref aFl, .ref aTr, .ref aBe, .ref aLu, .ref aLo, .ref vSf, .ref vSm, .ref vCo, .ref vSh, .int 0, .int 0, .int 0]))]) [4] rfl
      have hDc := hD.sub (ws' := [(hx, .inr (10, [.ref aLa, .ref aPa, .ref aGe, .ref aFl, .ref aTr, .ref aBe, .ref aLu, .ref aLo, .ref vSf, .ref vSm, .ref vCo, .ref vSh, .int 0, .int 0, .int 0]))]) [4] (by decide) rfl
      have hFc := va_free (wc := [(hx, .inr (10, [.ref aLa, .ref aPa, .ref aGe, .ref aFl, .ref aTr, .ref aBe, .ref aLu, .ref aLo, .ref vSf, .ref vSm, .ref vCo, .ref vSh, .int 0, .int 0, .int 0]))]) hD hS hA [4] rfl
      refine va_calli (va_runV (As := [.int 1]) (rest := []) ⟨hx₀, hb, hml, hown, hts⟩ (c_found1 l dC dI cI cJ cQ H.size hx aLa aPa aGe aFl aTr aBe aLu aLo vSf vSm vCo vSh) (cwV 1 hts (kGV wd_387 wd_384 wd_385 wd_386 wd_2) rfl rfl rfl (by decide +kernel) ⟨Nat.le_of_ble_eq_true rfl, Nat.le_of_ble_eq_true rfl⟩) (k_preV (ci := 10) (q0 := 0) hK hPc hDc hN rfl rfl) rfl rfl hl.1 rfl (lv_room (Nat.le_of_ble_eq_true rfl)) dX11_copy_45 ⟨by decide +kernel, by decide +kernel⟩) hS (fun q _ h => hFc q h) hFc (fun r_25 u₀ t₀ H1 locs ht hvm hw hB hz1 hk1 hS => ?_)
      obtain ⟨hP1, hK1, hD1⟩ := hB
      rw [ht] at hP1
      obtain ⟨hP, hD⟩ := va_join (wr := [(s0, .inr (8, [.ref i0, .int 1, .int 0, .int 0])), (s1, .inr (8, [.ref i1, .int 1, .int 0, .int 0])), (s2, .inr (8, [.ref i2, .int 1, .int 0, .int 0])), (s3, .inr (8, [.ref i3, .int 1, .int 0, .int 0])), (vSh, .inl (cQ, 4, .inr (.inr (.inr (.inr (fSh s0 s1 s2 s3))))))]) (w1 := [(hx, .inr (10, [.ref aLa, .ref aPa, .ref aGe, .ref aFl, .ref aTr, .ref aBe, .ref aLu, .ref aLo, .ref vSf, .ref vSm, .ref vCo, .ref vSh, .int 0, .int 0, .int 1]))]) hP hD [4] [0, 1, 2, 3, 5] rfl rfl (by decide) (by decide) hk1 hFc hP1 hD1
      generalize H1 = H at hP hS ⊢
      have hP : va_P (dC, dI) vwCl [(s0, .inr (8, [.ref i0, .int 1, .int 0, .int 0])), (s1, .inr (8, [.ref i1, .int 1, .int 0, .int 0])), (s2, .inr (8, [.ref i2, .int 1, .int 0, .int 0])), (s3, .inr (8, [.ref i3, .int 1, .int 0, .int 0])), (vSh, .inl (cQ, 4, .inr (.inr (.inr (.inr (fSh s0 s1 s2 s3)))))), (hx, .inr (10, [.ref aLa, .ref aPa, .ref aGe, .ref aFl, .ref aTr, .ref aBe, .ref aLu, .ref aLo, .ref vSf, .ref vSm, .ref vCo, .ref vSh, .int 0, .int 0, .int 1]))] H := hP
      have hD : va_D A [(s0, .inr (8, [.ref i0, .int 1, .int 0, .int 0])), (s1, .inr (8, [.ref i1, .int 1, .int 0, .int 0])), (s2, .inr (8, [.ref i2, .int 1, .int 0, .int 0])), (s3, .inr (8, [.ref i3, .int 1, .int 0, .int 0])), (vSh, .inl (cQ, 4, .inr (.inr (.inr (.inr (fSh s0 s1 s2 s3)))))), (hx, .inr (10, [.ref aLa, .ref aPa, .ref aGe, .ref aFl, .ref aTr, .ref aBe, .ref aLu, .ref aLo, .ref vSf, .ref vSm, .ref vCo, .ref vSh, .int 0, .int 0, .int 1]))] := hD
      try dsimp only at hw
      refine k_topi (v := (-11)) hw ?_
      exact W.iret (v := (-11)) hx₀ hb hr (fun t₀ ht hW => ⟨⟨(-11), (), rfl, (lf_x_copy_11 s t c_2 c_12 c_22 c_24), trivial⟩, hS.F ht⟩) hS.2.2 dX11_copy_48
    rw [if_neg c_24] at hw
    by_cases c_26 : t = 1
    · rw [if_pos c_26] at hw
      subst hw
      refine W.eq (g2 := F0 m₀ 12 ls [.ref s1]) rfl ?_
      refine lv_astore (lv' := [(7, .ref s1), (6, .ref s2), (0, .ref hx), (1, .int s), (2, .int i), (3, .int t), (4, .int j), (5, .int n)]) hx₀ hb dX11_copy_12 hl (by decide) rfl (fun ls hl => ?_)
      refine lv_aload hx₀ hb dX11_copy_14 (lv_at hl 1 rfl) ?_
      refine lv_ifnull hx₀ hb dX11_copy_16 ?_
      refine lv_aload hx₀ hb dX11_copy_19 (lv_at hl 0 rfl) ?_
      refine lv_ifnonnull (tgt := 27) hx₀ hb dX11_copy_21 (by decide) ?_
      refine lv_aload hx₀ hb dX11_copy_27 (lv_at hl 1 rfl) ?_
      refine va_get (D := (dC, dI)) (ci := 8) (v := .int 1) (C := RX8) (T := TX8) (N := 4) hx₀ hb hts inlX8 hown hK hP 2 rfl rfl 1 (by decide) (hts (.fieldLink RX11 133 "BittenStick$Sheet" "isLost" "Z") wd_378) (fun _ h9 => h9) rfl dX11_copy_29 ?_
      refine lv_if_ne (tgt := 43) hx₀ hb dX11_copy_32 (by decide) (fun _ => ?_) (fun c9 => absurd c9 (by decide +kernel))
      refine lv_aload_n hx₀ hb dX11_copy_43 rfl (lv_at hl 2 rfl) ?_
      refine lv_iconst (v := 1) hx₀ hb dX11_copy_44 (by decide +kernel) ?_
      have hPc := hP.sub (ws' := [(hx, .inr (10, [.ref aLa, .ref aPa, .ref aGe, .ref aFl, .ref aTr, .ref aBe, .ref aLu, .ref aLo, .ref vSf, .ref vSm, .ref vCo, .ref vSh, .int 0, .int 0, .int 0]))]) [4] rfl
      have hDc := hD.sub (ws' := [(hx, .inr (10, [.ref aLa, .ref aPa, .ref aGe, .ref aFl, .ref aTr, .ref aBe, .ref aLu, .ref aLo, .ref vSf, .ref vSm, .ref vCo, .ref vSh, .int 0, .int 0, .int 0]))]) [4] (by decide) rfl
      have hFc := va_free (wc := [(hx, .inr (10, [.ref aLa, .ref aPa, .ref aGe, .ref aFl, .ref aTr, .ref aBe, .ref aLu, .ref aLo, .ref vSf, .ref vSm, .ref vCo, .ref vSh, .int 0, .int 0, .int 0]))]) hD hS hA [4] rfl
      refine va_calli (va_runV (As := [.int 1]) (rest := []) ⟨hx₀, hb, hml, hown, hts⟩ (c_found1 l dC dI cI cJ cQ H.size hx aLa aPa aGe aFl aTr aBe aLu aLo vSf vSm vCo vSh) (cwV 1 hts (kGV wd_387 wd_384 wd_385 wd_386 wd_2) rfl rfl rfl (by decide +kernel) ⟨Nat.le_of_ble_eq_true rfl, Nat.le_of_ble_eq_true rfl⟩) (k_preV (ci := 10) (q0 := 0) hK hPc hDc hN rfl rfl) rfl rfl hl.1 rfl (lv_room (Nat.le_of_ble_eq_true rfl)) dX11_copy_45 ⟨by decide +kernel, by decide +kernel⟩) hS (fun q _ h => hFc q h) hFc (fun r_27 u₀ t₀ H1 locs ht hvm hw hB hz1 hk1 hS => ?_)
      obtain ⟨hP1, hK1, hD1⟩ := hB
      rw [ht] at hP1
      obtain ⟨hP, hD⟩ := va_join (wr := [(s0, .inr (8, [.ref i0, .int 1, .int 0, .int 0])), (s1, .inr (8, [.ref i1, .int 1, .int 0, .int 0])), (s2, .inr (8, [.ref i2, .int 1, .int 0, .int 0])), (s3, .inr (8, [.ref i3, .int 1, .int 0, .int 0])), (vSh, .inl (cQ, 4, .inr (.inr (.inr (.inr (fSh s0 s1 s2 s3))))))]) (w1 := [(hx, .inr (10, [.ref aLa, .ref aPa, .ref aGe, .ref aFl, .ref aTr, .ref aBe, .ref aLu, .ref aLo, .ref vSf, .ref vSm, .ref vCo, .ref vSh, .int 0, .int 0, .int 1]))]) hP hD [4] [0, 1, 2, 3, 5] rfl rfl (by decide) (by decide) hk1 hFc hP1 hD1
      generalize H1 = H at hP hS ⊢
      have hP : va_P (dC, dI) vwCl [(s0, .inr (8, [.ref i0, .int 1, .int 0, .int 0])), (s1, .inr (8, [.ref i1, .int 1, .int 0, .int 0])), (s2, .inr (8, [.ref i2, .int 1, .int 0, .int 0])), (s3, .inr (8, [.ref i3, .int 1, .int 0, .int 0])), (vSh, .inl (cQ, 4, .inr (.inr (.inr (.inr (fSh s0 s1 s2 s3)))))), (hx, .inr (10, [.ref aLa, .ref aPa, .ref aGe, .ref aFl, .ref aTr, .ref aBe, .ref aLu, .ref aLo, .ref vSf, .ref vSm, .ref vCo, .ref vSh, .int 0, .int 0, .int 1]))] H := hP
      have hD : va_D A [(s0, .inr (8, [.ref i0, .int 1, .int 0, .int 0])), (s1, .inr (8, [.ref i1, .int 1, .int 0, .int 0])), (s2, .inr (8, [.ref i2, .int 1, .int 0, .int 0])), (s3, .inr (8, [.ref i3, .int 1, .int 0, .int 0])), (vSh, .inl (cQ, 4, .inr (.inr (.inr (.inr (fSh s0 s1 s2 s3)))))), (hx, .inr (10, [.ref aLa, .ref aPa, .ref aGe, .ref aFl, .ref aTr, .ref aBe, .ref aLu, .ref aLo, .ref vSf, .ref vSm, .ref vCo, .ref vSh, .int 0, .int 0, .int 1]))] := hD
      try dsimp only at hw
      refine k_topi (v := (-11)) hw ?_
      exact W.iret (v := (-11)) hx₀ hb hr (fun t₀ ht hW => ⟨⟨(-11), (), rfl, (lf_x_copy_12 s t c_2 c_12 c_22 c_24 c_26), trivial⟩, hS.F ht⟩) hS.2.2 dX11_copy_48
    rw [if_neg c_26] at hw
    by_cases c_28 : t = 2
    · rw [if_pos c_28] at hw
      subst hw
      refine W.eq (g2 := F0 m₀ 12 ls [.ref s2]) rfl ?_
      refine lv_astore (lv' := [(7, .ref s2), (6, .ref s2), (0, .ref hx), (1, .int s), (2, .int i), (3, .int t), (4, .int j), (5, .int n)]) hx₀ hb dX11_copy_12 hl (by decide) rfl (fun ls hl => ?_)
      refine lv_aload hx₀ hb dX11_copy_14 (lv_at hl 1 rfl) ?_
      refine lv_ifnull hx₀ hb dX11_copy_16 ?_
      refine lv_aload hx₀ hb dX11_copy_19 (lv_at hl 0 rfl) ?_
      refine lv_ifnonnull (tgt := 27) hx₀ hb dX11_copy_21 (by decide) ?_
      refine lv_aload hx₀ hb dX11_copy_27 (lv_at hl 1 rfl) ?_
      refine va_get (D := (dC, dI)) (ci := 8) (v := .int 1) (C := RX8) (T := TX8) (N := 4) hx₀ hb hts inlX8 hown hK hP 2 rfl rfl 1 (by decide) (hts (.fieldLink RX11 133 "BittenStick$Sheet" "isLost" "Z") wd_378) (fun _ h9 => h9) rfl dX11_copy_29 ?_
      refine lv_if_ne (tgt := 43) hx₀ hb dX11_copy_32 (by decide) (fun _ => ?_) (fun c9 => absurd c9 (by decide +kernel))
      refine lv_aload_n hx₀ hb dX11_copy_43 rfl (lv_at hl 2 rfl) ?_
      refine lv_iconst (v := 1) hx₀ hb dX11_copy_44 (by decide +kernel) ?_
      have hPc := hP.sub (ws' := [(hx, .inr (10, [.ref aLa, .ref aPa, .ref aGe, .ref aFl, .ref aTr, .ref aBe, .ref aLu, .ref aLo, .ref vSf, .ref vSm, .ref vCo, .ref vSh, .int 0, .int 0, .int 0]))]) [4] rfl
      have hDc := hD.sub (ws' := [(hx, .inr (10, [.ref aLa, .ref aPa, .ref aGe, .ref aFl, .ref aTr, .ref aBe, .ref aLu, .ref aLo, .ref vSf, .ref vSm, .ref vCo, .ref vSh, .int 0, .int 0, .int 0]))]) [4] (by decide) rfl
      have hFc := va_free (wc := [(hx, .inr (10, [.ref aLa, .ref aPa, .ref aGe, .ref aFl, .ref aTr, .ref aBe, .ref aLu, .ref aLo, .ref vSf, .ref vSm, .ref vCo, .ref vSh, .int 0, .int 0, .int 0]))]) hD hS hA [4] rfl
      refine va_calli (va_runV (As := [.int 1]) (rest := []) ⟨hx₀, hb, hml, hown, hts⟩ (c_found1 l dC dI cI cJ cQ H.size hx aLa aPa aGe aFl aTr aBe aLu aLo vSf vSm vCo vSh) (cwV 1 hts (kGV wd_387 wd_384 wd_385 wd_386 wd_2) rfl rfl rfl (by decide +kernel) ⟨Nat.le_of_ble_eq_true rfl, Nat.le_of_ble_eq_true rfl⟩) (k_preV (ci := 10) (q0 := 0) hK hPc hDc hN rfl rfl) rfl rfl hl.1 rfl (lv_room (Nat.le_of_ble_eq_true rfl)) dX11_copy_45 ⟨by decide +kernel, by decide +kernel⟩) hS (fun q _ h => hFc q h) hFc (fun r_29 u₀ t₀ H1 locs ht hvm hw hB hz1 hk1 hS => ?_)
      obtain ⟨hP1, hK1, hD1⟩ := hB
      rw [ht] at hP1
      obtain ⟨hP, hD⟩ := va_join (wr := [(s0, .inr (8, [.ref i0, .int 1, .int 0, .int 0])), (s1, .inr (8, [.ref i1, .int 1, .int 0, .int 0])), (s2, .inr (8, [.ref i2, .int 1, .int 0, .int 0])), (s3, .inr (8, [.ref i3, .int 1, .int 0, .int 0])), (vSh, .inl (cQ, 4, .inr (.inr (.inr (.inr (fSh s0 s1 s2 s3))))))]) (w1 := [(hx, .inr (10, [.ref aLa, .ref aPa, .ref aGe, .ref aFl, .ref aTr, .ref aBe, .ref aLu, .ref aLo, .ref vSf, .ref vSm, .ref vCo, .ref vSh, .int 0, .int 0, .int 1]))]) hP hD [4] [0, 1, 2, 3, 5] rfl rfl (by decide) (by decide) hk1 hFc hP1 hD1
      generalize H1 = H at hP hS ⊢
      have hP : va_P (dC, dI) vwCl [(s0, .inr (8, [.ref i0, .int 1, .int 0, .int 0])), (s1, .inr (8, [.ref i1, .int 1, .int 0, .int 0])), (s2, .inr (8, [.ref i2, .int 1, .int 0, .int 0])), (s3, .inr (8, [.ref i3, .int 1, .int 0, .int 0])), (vSh, .inl (cQ, 4, .inr (.inr (.inr (.inr (fSh s0 s1 s2 s3)))))), (hx, .inr (10, [.ref aLa, .ref aPa, .ref aGe, .ref aFl, .ref aTr, .ref aBe, .ref aLu, .ref aLo, .ref vSf, .ref vSm, .ref vCo, .ref vSh, .int 0, .int 0, .int 1]))] H := hP
      have hD : va_D A [(s0, .inr (8, [.ref i0, .int 1, .int 0, .int 0])), (s1, .inr (8, [.ref i1, .int 1, .int 0, .int 0])), (s2, .inr (8, [.ref i2, .int 1, .int 0, .int 0])), (s3, .inr (8, [.ref i3, .int 1, .int 0, .int 0])), (vSh, .inl (cQ, 4, .inr (.inr (.inr (.inr (fSh s0 s1 s2 s3)))))), (hx, .inr (10, [.ref aLa, .ref aPa, .ref aGe, .ref aFl, .ref aTr, .ref aBe, .ref aLu, .ref aLo, .ref vSf, .ref vSm, .ref vCo, .ref vSh, .int 0, .int 0, .int 1]))] := hD
      try dsimp only at hw
      refine k_topi (v := (-11)) hw ?_
      exact W.iret (v := (-11)) hx₀ hb hr (fun t₀ ht hW => ⟨⟨(-11), (), rfl, (lf_x_copy_13 s t c_2 c_12 c_22 c_24 c_26 c_28), trivial⟩, hS.F ht⟩) hS.2.2 dX11_copy_48
    rw [if_neg c_28] at hw
    by_cases c_30 : t = 3
    · rw [if_pos c_30] at hw
      subst hw
      refine W.eq (g2 := F0 m₀ 12 ls [.ref s3]) rfl ?_
      refine lv_astore (lv' := [(7, .ref s3), (6, .ref s2), (0, .ref hx), (1, .int s), (2, .int i), (3, .int t), (4, .int j), (5, .int n)]) hx₀ hb dX11_copy_12 hl (by decide) rfl (fun ls hl => ?_)
      refine lv_aload hx₀ hb dX11_copy_14 (lv_at hl 1 rfl) ?_
      refine lv_ifnull hx₀ hb dX11_copy_16 ?_
      refine lv_aload hx₀ hb dX11_copy_19 (lv_at hl 0 rfl) ?_
      refine lv_ifnonnull (tgt := 27) hx₀ hb dX11_copy_21 (by decide) ?_
      refine lv_aload hx₀ hb dX11_copy_27 (lv_at hl 1 rfl) ?_
      refine va_get (D := (dC, dI)) (ci := 8) (v := .int 1) (C := RX8) (T := TX8) (N := 4) hx₀ hb hts inlX8 hown hK hP 2 rfl rfl 1 (by decide) (hts (.fieldLink RX11 133 "BittenStick$Sheet" "isLost" "Z") wd_378) (fun _ h9 => h9) rfl dX11_copy_29 ?_
      refine lv_if_ne (tgt := 43) hx₀ hb dX11_copy_32 (by decide) (fun _ => ?_) (fun c9 => absurd c9 (by decide +kernel))
      refine lv_aload_n hx₀ hb dX11_copy_43 rfl (lv_at hl 2 rfl) ?_
      refine lv_iconst (v := 1) hx₀ hb dX11_copy_44 (by decide +kernel) ?_
      have hPc := hP.sub (ws' := [(hx, .inr (10, [.ref aLa, .ref aPa, .ref aGe, .ref aFl, .ref aTr, .ref aBe, .ref aLu, .ref aLo, .ref vSf, .ref vSm, .ref vCo, .ref vSh, .int 0, .int 0, .int 0]))]) [4] rfl
      have hDc := hD.sub (ws' := [(hx, .inr (10, [.ref aLa, .ref aPa, .ref aGe, .ref aFl, .ref aTr, .ref aBe, .ref aLu, .ref aLo, .ref vSf, .ref vSm, .ref vCo, .ref vSh, .int 0, .int 0, .int 0]))]) [4] (by decide) rfl
      have hFc := va_free (wc := [(hx, .inr (10, [.ref aLa, .ref aPa, .ref aGe, .ref aFl, .ref aTr, .ref aBe, .ref aLu, .ref aLo, .ref vSf, .ref vSm, .ref vCo, .ref vSh, .int 0, .int 0, .int 0]))]) hD hS hA [4] rfl
      refine va_calli (va_runV (As := [.int 1]) (rest := []) ⟨hx₀, hb, hml, hown, hts⟩ (c_found1 l dC dI cI cJ cQ H.size hx aLa aPa aGe aFl aTr aBe aLu aLo vSf vSm vCo vSh) (cwV 1 hts (kGV wd_387 wd_384 wd_385 wd_386 wd_2) rfl rfl rfl (by decide +kernel) ⟨Nat.le_of_ble_eq_true rfl, Nat.le_of_ble_eq_true rfl⟩) (k_preV (ci := 10) (q0 := 0) hK hPc hDc hN rfl rfl) rfl rfl hl.1 rfl (lv_room (Nat.le_of_ble_eq_true rfl)) dX11_copy_45 ⟨by decide +kernel, by decide +kernel⟩) hS (fun q _ h => hFc q h) hFc (fun r_31 u₀ t₀ H1 locs ht hvm hw hB hz1 hk1 hS => ?_)
      obtain ⟨hP1, hK1, hD1⟩ := hB
      rw [ht] at hP1
      obtain ⟨hP, hD⟩ := va_join (wr := [(s0, .inr (8, [.ref i0, .int 1, .int 0, .int 0])), (s1, .inr (8, [.ref i1, .int 1, .int 0, .int 0])), (s2, .inr (8, [.ref i2, .int 1, .int 0, .int 0])), (s3, .inr (8, [.ref i3, .int 1, .int 0, .int 0])), (vSh, .inl (cQ, 4, .inr (.inr (.inr (.inr (fSh s0 s1 s2 s3))))))]) (w1 := [(hx, .inr (10, [.ref aLa, .ref aPa, .ref aGe, .ref aFl, .ref aTr, .ref aBe, .ref aLu, .ref aLo, .ref vSf, .ref vSm, .ref vCo, .ref vSh, .int 0, .int 0, .int 1]))]) hP hD [4] [0, 1, 2, 3, 5] rfl rfl (by decide) (by decide) hk1 hFc hP1 hD1
      generalize H1 = H at hP hS ⊢
      have hP : va_P (dC, dI) vwCl [(s0, .inr (8, [.ref i0, .int 1, .int 0, .int 0])), (s1, .inr (8, [.ref i1, .int 1, .int 0, .int 0])), (s2, .inr (8, [.ref i2, .int 1, .int 0, .int 0])), (s3, .inr (8, [.ref i3, .int 1, .int 0, .int 0])), (vSh, .inl (cQ, 4, .inr (.inr (.inr (.inr (fSh s0 s1 s2 s3)))))), (hx, .inr (10, [.ref aLa, .ref aPa, .ref aGe, .ref aFl, .ref aTr, .ref aBe, .ref aLu, .ref aLo, .ref vSf, .ref vSm, .ref vCo, .ref vSh, .int 0, .int 0, .int 1]))] H := hP
      have hD : va_D A [(s0, .inr (8, [.ref i0, .int 1, .int 0, .int 0])), (s1, .inr (8, [.ref i1, .int 1, .int 0, .int 0])), (s2, .inr (8, [.ref i2, .int 1, .int 0, .int 0])), (s3, .inr (8, [.ref i3, .int 1, .int 0, .int 0])), (vSh, .inl (cQ, 4, .inr (.inr (.inr (.inr (fSh s0 s1 s2 s3)))))), (hx, .inr (10, [.ref aLa, .ref aPa, .ref aGe, .ref aFl, .ref aTr, .ref aBe, .ref aLu, .ref aLo, .ref vSf, .ref vSm, .ref vCo, .ref vSh, .int 0, .int 0, .int 1]))] := hD
      try dsimp only at hw
      refine k_topi (v := (-11)) hw ?_
      exact W.iret (v := (-11)) hx₀ hb hr (fun t₀ ht hW => ⟨⟨(-11), (), rfl, (lf_x_copy_14 s t c_2 c_12 c_22 c_24 c_26 c_28 c_30), trivial⟩, hS.F ht⟩) hS.2.2 dX11_copy_48
    rw [if_neg c_30] at hw
    subst hw
    refine W.eq (g2 := F0 m₀ 12 ls [.null]) rfl ?_
    refine lv_astoreN (lv' := [(7, .null), (6, .ref s2), (0, .ref hx), (1, .int s), (2, .int i), (3, .int t), (4, .int j), (5, .int n)]) hx₀ hb dX11_copy_12 hl (by decide) rfl (fun ls hl => ?_)
    refine lv_aload hx₀ hb dX11_copy_14 (lv_at hl 1 rfl) ?_
    refine lv_ifnull hx₀ hb dX11_copy_16 ?_
    refine lv_aloadN hx₀ hb dX11_copy_19 (lv_at hl 0 rfl) ?_
    refine lv_ifnonnullN hx₀ hb dX11_copy_21 ?_
    refine lv_bipush (v := (-2)) hx₀ hb dX11_copy_24 (by decide +kernel) ?_
    exact W.iret (v := (-2)) hx₀ hb hr (fun t₀ ht hW => ⟨⟨(-2), (), rfl, (lf_x_copy_15 s t c_2 c_12 c_22 c_24 c_26 c_28 c_30), trivial⟩, hS.F ht⟩) hS.2.2 dX11_copy_26
  rw [if_neg c_22] at hw
  by_cases c_32 : s = 3
  · rw [if_pos c_32] at hw
    subst hw
    refine W.eq (g2 := F0 m₀ 5 ls [.ref s3]) rfl ?_
    refine lv_astore (lv' := [(6, .ref s3), (0, .ref hx), (1, .int s), (2, .int i), (3, .int t), (4, .int j), (5, .int n)]) hx₀ hb dX11_copy_5 hl (by decide) rfl (fun ls hl => ?_)
    refine lv_aload_n hx₀ hb dX11_copy_7 rfl (lv_at hl 1 rfl) ?_
    refine lv_iload_n hx₀ hb dX11_copy_8 rfl (lv_at hl 4 rfl) ?_
    have hPc := hP.sub (ws' := [(hx, .inr (10, [.ref aLa, .ref aPa, .ref aGe, .ref aFl, .ref aTr, .ref aBe, .ref aLu, .ref aLo, .ref vSf, .ref vSm, .ref vCo, .ref vSh, .int 0, .int 0, .int 0])), (vSh, .inl (cQ, 4, .inr (.inr (.inr (.inr (fSh s0 s1 s2 s3))))))]) [4, 5] rfl
    have hDc := hD.sub (ws' := [(hx, .inr (10, [.ref aLa, .ref aPa, .ref aGe, .ref aFl, .ref aTr, .ref aBe, .ref aLu, .ref aLo, .ref vSf, .ref vSm, .ref vCo, .ref vSh, .int 0, .int 0, .int 0])), (vSh, .inl (cQ, 4, .inr (.inr (.inr (.inr (fSh s0 s1 s2 s3))))))]) [4, 5] (by decide) rfl
    have hFc := va_free (wc := [(hx, .inr (10, [.ref aLa, .ref aPa, .ref aGe, .ref aFl, .ref aTr, .ref aBe, .ref aLu, .ref aLo, .ref vSf, .ref vSm, .ref vCo, .ref vSh, .int 0, .int 0, .int 0])), (vSh, .inl (cQ, 4, .inr (.inr (.inr (.inr (fSh s0 s1 s2 s3))))))]) hD hS hA [4, 5] rfl
    refine va_callq (va_runV (As := [.int t]) (rest := []) ⟨hx₀, hb, hml, hown, hts⟩ (c_sheetOf l dC dI cI cJ cQ H.size hx t aLa aPa aGe aFl aTr aBe aLu aLo vSf vSm vCo vSh s0 s1 s2 s3) (cwV 1 hts (kGV wd_383 wd_380 wd_381 wd_382 wd_2) rfl rfl rfl (by decide +kernel) ⟨Nat.le_of_ble_eq_true rfl, Nat.le_of_ble_eq_true rfl⟩) (k_preV (ci := 10) (q0 := 0) hK hPc hDc hN rfl rfl) rfl rfl hl.1 rfl (lv_room (Nat.le_of_ble_eq_true rfl)) dX11_copy_9 ⟨by decide +kernel, by decide +kernel⟩) hS (fun q _ h => hFc q h) hFc (fun r_33 u₀ t₀ H1 locs ht hvm hw hB hz1 hk1 hS => ?_)
    obtain ⟨hP1, hK1, hD1⟩ := hB
    rw [ht] at hP1
    obtain ⟨hP, hD⟩ := va_join (wr := [(s0, .inr (8, [.ref i0, .int 1, .int 0, .int 0])), (s1, .inr (8, [.ref i1, .int 1, .int 0, .int 0])), (s2, .inr (8, [.ref i2, .int 1, .int 0, .int 0])), (s3, .inr (8, [.ref i3, .int 1, .int 0, .int 0]))]) (w1 := [(hx, .inr (10, [.ref aLa, .ref aPa, .ref aGe, .ref aFl, .ref aTr, .ref aBe, .ref aLu, .ref aLo, .ref vSf, .ref vSm, .ref vCo, .ref vSh, .int 0, .int 0, .int 0])), (vSh, .inl (cQ, 4, .inr (.inr (.inr (.inr (fSh s0 s1 s2 s3))))))]) hP hD [4, 5] [0, 1, 2, 3] rfl rfl (by decide) (by decide) hk1 hFc hP1 hD1
    generalize H1 = H at hP hS ⊢
    have hP : va_P (dC, dI) vwCl [(s0, .inr (8, [.ref i0, .int 1, .int 0, .int 0])), (s1, .inr (8, [.ref i1, .int 1, .int 0, .int 0])), (s2, .inr (8, [.ref i2, .int 1, .int 0, .int 0])), (s3, .inr (8, [.ref i3, .int 1, .int 0, .int 0])), (hx, .inr (10, [.ref aLa, .ref aPa, .ref aGe, .ref aFl, .ref aTr, .ref aBe, .ref aLu, .ref aLo, .ref vSf, .ref vSm, .ref vCo, .ref vSh, .int 0, .int 0, .int 0])), (vSh, .inl (cQ, 4, .inr (.inr (.inr (.inr (fSh s0 s1 s2 s3))))))] H := hP
    have hD : va_D A [(s0, .inr (8, [.ref i0, .int 1, .int 0, .int 0])), (s1, .inr (8, [.ref i1, .int 1, .int 0, .int 0])), (s2, .inr (8, [.ref i2, .int 1, .int 0, .int 0])), (s3, .inr (8, [.ref i3, .int 1, .int 0, .int 0])), (hx, .inr (10, [.ref aLa, .ref aPa, .ref aGe, .ref aFl, .ref aTr, .ref aBe, .ref aLu, .ref aLo, .ref vSf, .ref vSm, .ref vCo, .ref vSh, .int 0, .int 0, .int 0])), (vSh, .inl (cQ, 4, .inr (.inr (.inr (.inr (fSh s0 s1 s2 s3))))))] := hD
    try dsimp only at hw
    by_cases c_34 : t = 0
    · rw [if_pos c_34] at hw
      subst hw
      refine W.eq (g2 := F0 m₀ 12 ls [.ref s0]) rfl ?_
      refine lv_astore (lv' := [(7, .ref s0), (6, .ref s3), (0, .ref hx), (1, .int s), (2, .int i), (3, .int t), (4, .int j), (5, .int n)]) hx₀ hb dX11_copy_12 hl (by decide) rfl (fun ls hl => ?_)
      refine lv_aload hx₀ hb dX11_copy_14 (lv_at hl 1 rfl) ?_
      refine lv_ifnull hx₀ hb dX11_copy_16 ?_
      refine lv_aload hx₀ hb dX11_copy_19 (lv_at hl 0 rfl) ?_
      refine lv_ifnonnull (tgt := 27) hx₀ hb dX11_copy_21 (by decide) ?_
      refine lv_aload hx₀ hb dX11_copy_27 (lv_at hl 1 rfl) ?_
      refine va_get (D := (dC, dI)) (ci := 8) (v := .int 1) (C := RX8) (T := TX8) (N := 4) hx₀ hb hts inlX8 hown hK hP 3 rfl rfl 1 (by decide) (hts (.fieldLink RX11 133 "BittenStick$Sheet" "isLost" "Z") wd_378) (fun _ h9 => h9) rfl dX11_copy_29 ?_
      refine lv_if_ne (tgt := 43) hx₀ hb dX11_copy_32 (by decide) (fun _ => ?_) (fun c9 => absurd c9 (by decide +kernel))
      refine lv_aload_n hx₀ hb dX11_copy_43 rfl (lv_at hl 2 rfl) ?_
      refine lv_iconst (v := 1) hx₀ hb dX11_copy_44 (by decide +kernel) ?_
      have hPc := hP.sub (ws' := [(hx, .inr (10, [.ref aLa, .ref aPa, .ref aGe, .ref aFl, .ref aTr, .ref aBe, .ref aLu, .ref aLo, .ref vSf, .ref vSm, .ref vCo, .ref vSh, .int 0, .int 0, .int 0]))]) [4] rfl
      have hDc := hD.sub (ws' := [(hx, .inr (10, [.ref aLa, .ref aPa, .ref aGe, .ref aFl, .ref aTr, .ref aBe, .ref aLu, .ref aLo, .ref vSf, .ref vSm, .ref vCo, .ref vSh, .int 0, .int 0, .int 0]))]) [4] (by decide) rfl
      have hFc := va_free (wc := [(hx, .inr (10, [.ref aLa, .ref aPa, .ref aGe, .ref aFl, .ref aTr, .ref aBe, .ref aLu, .ref aLo, .ref vSf, .ref vSm, .ref vCo, .ref vSh, .int 0, .int 0, .int 0]))]) hD hS hA [4] rfl
      refine va_calli (va_runV (As := [.int 1]) (rest := []) ⟨hx₀, hb, hml, hown, hts⟩ (c_found1 l dC dI cI cJ cQ H.size hx aLa aPa aGe aFl aTr aBe aLu aLo vSf vSm vCo vSh) (cwV 1 hts (kGV wd_387 wd_384 wd_385 wd_386 wd_2) rfl rfl rfl (by decide +kernel) ⟨Nat.le_of_ble_eq_true rfl, Nat.le_of_ble_eq_true rfl⟩) (k_preV (ci := 10) (q0 := 0) hK hPc hDc hN rfl rfl) rfl rfl hl.1 rfl (lv_room (Nat.le_of_ble_eq_true rfl)) dX11_copy_45 ⟨by decide +kernel, by decide +kernel⟩) hS (fun q _ h => hFc q h) hFc (fun r_35 u₀ t₀ H1 locs ht hvm hw hB hz1 hk1 hS => ?_)
      obtain ⟨hP1, hK1, hD1⟩ := hB
      rw [ht] at hP1
      obtain ⟨hP, hD⟩ := va_join (wr := [(s0, .inr (8, [.ref i0, .int 1, .int 0, .int 0])), (s1, .inr (8, [.ref i1, .int 1, .int 0, .int 0])), (s2, .inr (8, [.ref i2, .int 1, .int 0, .int 0])), (s3, .inr (8, [.ref i3, .int 1, .int 0, .int 0])), (vSh, .inl (cQ, 4, .inr (.inr (.inr (.inr (fSh s0 s1 s2 s3))))))]) (w1 := [(hx, .inr (10, [.ref aLa, .ref aPa, .ref aGe, .ref aFl, .ref aTr, .ref aBe, .ref aLu, .ref aLo, .ref vSf, .ref vSm, .ref vCo, .ref vSh, .int 0, .int 0, .int 1]))]) hP hD [4] [0, 1, 2, 3, 5] rfl rfl (by decide) (by decide) hk1 hFc hP1 hD1
      generalize H1 = H at hP hS ⊢
      have hP : va_P (dC, dI) vwCl [(s0, .inr (8, [.ref i0, .int 1, .int 0, .int 0])), (s1, .inr (8, [.ref i1, .int 1, .int 0, .int 0])), (s2, .inr (8, [.ref i2, .int 1, .int 0, .int 0])), (s3, .inr (8, [.ref i3, .int 1, .int 0, .int 0])), (vSh, .inl (cQ, 4, .inr (.inr (.inr (.inr (fSh s0 s1 s2 s3)))))), (hx, .inr (10, [.ref aLa, .ref aPa, .ref aGe, .ref aFl, .ref aTr, .ref aBe, .ref aLu, .ref aLo, .ref vSf, .ref vSm, .ref vCo, .ref vSh, .int 0, .int 0, .int 1]))] H := hP
      have hD : va_D A [(s0, .inr (8, [.ref i0, .int 1, .int 0, .int 0])), (s1, .inr (8, [.ref i1, .int 1, .int 0, .int 0])), (s2, .inr (8, [.ref i2, .int 1, .int 0, .int 0])), (s3, .inr (8, [.ref i3, .int 1, .int 0, .int 0])), (vSh, .inl (cQ, 4, .inr (.inr (.inr (.inr (fSh s0 s1 s2 s3)))))), (hx, .inr (10, [.ref aLa, .ref aPa, .ref aGe, .ref aFl, .ref aTr, .ref aBe, .ref aLu, .ref aLo, .ref vSf, .ref vSm, .ref vCo, .ref vSh, .int 0, .int 0, .int 1]))] := hD
      try dsimp only at hw
      refine k_topi (v := (-11)) hw ?_
      exact W.iret (v := (-11)) hx₀ hb hr (fun t₀ ht hW => ⟨⟨(-11), (), rfl, (lf_x_copy_16 s t c_2 c_12 c_22 c_32 c_34), trivial⟩, hS.F ht⟩) hS.2.2 dX11_copy_48
    rw [if_neg c_34] at hw
    by_cases c_36 : t = 1
    · rw [if_pos c_36] at hw
      subst hw
      refine W.eq (g2 := F0 m₀ 12 ls [.ref s1]) rfl ?_
      refine lv_astore (lv' := [(7, .ref s1), (6, .ref s3), (0, .ref hx), (1, .int s), (2, .int i), (3, .int t), (4, .int j), (5, .int n)]) hx₀ hb dX11_copy_12 hl (by decide) rfl (fun ls hl => ?_)
      refine lv_aload hx₀ hb dX11_copy_14 (lv_at hl 1 rfl) ?_
      refine lv_ifnull hx₀ hb dX11_copy_16 ?_
      refine lv_aload hx₀ hb dX11_copy_19 (lv_at hl 0 rfl) ?_
      refine lv_ifnonnull (tgt := 27) hx₀ hb dX11_copy_21 (by decide) ?_
      refine lv_aload hx₀ hb dX11_copy_27 (lv_at hl 1 rfl) ?_
      refine va_get (D := (dC, dI)) (ci := 8) (v := .int 1) (C := RX8) (T := TX8) (N := 4) hx₀ hb hts inlX8 hown hK hP 3 rfl rfl 1 (by decide) (hts (.fieldLink RX11 133 "BittenStick$Sheet" "isLost" "Z") wd_378) (fun _ h9 => h9) rfl dX11_copy_29 ?_
      refine lv_if_ne (tgt := 43) hx₀ hb dX11_copy_32 (by decide) (fun _ => ?_) (fun c9 => absurd c9 (by decide +kernel))
      refine lv_aload_n hx₀ hb dX11_copy_43 rfl (lv_at hl 2 rfl) ?_
      refine lv_iconst (v := 1) hx₀ hb dX11_copy_44 (by decide +kernel) ?_
      have hPc := hP.sub (ws' := [(hx, .inr (10, [.ref aLa, .ref aPa, .ref aGe, .ref aFl, .ref aTr, .ref aBe, .ref aLu, .ref aLo, .ref vSf, .ref vSm, .ref vCo, .ref vSh, .int 0, .int 0, .int 0]))]) [4] rfl
      have hDc := hD.sub (ws' := [(hx, .inr (10, [.ref aLa, .ref aPa, .ref aGe, .ref aFl, .ref aTr, .ref aBe, .ref aLu, .ref aLo, .ref vSf, .ref vSm, .ref vCo, .ref vSh, .int 0, .int 0, .int 0]))]) [4] (by decide) rfl
      have hFc := va_free (wc := [(hx, .inr (10, [.ref aLa, .ref aPa, .ref aGe, .ref aFl, .ref aTr, .ref aBe, .ref aLu, .ref aLo, .ref vSf, .ref vSm, .ref vCo, .ref vSh, .int 0, .int 0, .int 0]))]) hD hS hA [4] rfl
      refine va_calli (va_runV (As := [.int 1]) (rest := []) ⟨hx₀, hb, hml, hown, hts⟩ (c_found1 l dC dI cI cJ cQ H.size hx aLa aPa aGe aFl aTr aBe aLu aLo vSf vSm vCo vSh) (cwV 1 hts (kGV wd_387 wd_384 wd_385 wd_386 wd_2) rfl rfl rfl (by decide +kernel) ⟨Nat.le_of_ble_eq_true rfl, Nat.le_of_ble_eq_true rfl⟩) (k_preV (ci := 10) (q0 := 0) hK hPc hDc hN rfl rfl) rfl rfl hl.1 rfl (lv_room (Nat.le_of_ble_eq_true rfl)) dX11_copy_45 ⟨by decide +kernel, by decide +kernel⟩) hS (fun q _ h => hFc q h) hFc (fun r_37 u₀ t₀ H1 locs ht hvm hw hB hz1 hk1 hS => ?_)
      obtain ⟨hP1, hK1, hD1⟩ := hB
      rw [ht] at hP1
      obtain ⟨hP, hD⟩ := va_join (wr := [(s0, .inr (8, [.ref i0, .int 1, .int 0, .int 0])), (s1, .inr (8, [.ref i1, .int 1, .int 0, .int 0])), (s2, .inr (8, [.ref i2, .int 1, .int 0, .int 0])), (s3, .inr (8, [.ref i3, .int 1, .int 0, .int 0])), (vSh, .inl (cQ, 4, .inr (.inr (.inr (.inr (fSh s0 s1 s2 s3))))))]) (w1 := [(hx, .inr (10, [.ref aLa, .ref aPa, .ref aGe, .ref aFl, .ref aTr, .ref aBe, .ref aLu, .ref aLo, .ref vSf, .ref vSm, .ref vCo, .ref vSh, .int 0, .int 0, .int 1]))]) hP hD [4] [0, 1, 2, 3, 5] rfl rfl (by decide) (by decide) hk1 hFc hP1 hD1
      generalize H1 = H at hP hS ⊢
      have hP : va_P (dC, dI) vwCl [(s0, .inr (8, [.ref i0, .int 1, .int 0, .int 0])), (s1, .inr (8, [.ref i1, .int 1, .int 0, .int 0])), (s2, .inr (8, [.ref i2, .int 1, .int 0, .int 0])), (s3, .inr (8, [.ref i3, .int 1, .int 0, .int 0])), (vSh, .inl (cQ, 4, .inr (.inr (.inr (.inr (fSh s0 s1 s2 s3)))))), (hx, .inr (10, [.ref aLa, .ref aPa, .ref aGe, .ref aFl, .ref aTr, .ref aBe, .ref aLu, .ref aLo, .ref vSf, .ref vSm, .ref vCo, .ref vSh, .int 0, .int 0, .int 1]))] H := hP
      have hD : va_D A [(s0, .inr (8, [.ref i0, .int 1, .int 0, .int 0])), (s1, .inr (8, [.ref i1, .int 1, .int 0, .int 0])), (s2, .inr (8, [.ref i2, .int 1, .int 0, .int 0])), (s3, .inr (8, [.ref i3, .int 1, .int 0, .int 0])), (vSh, .inl (cQ, 4, .inr (.inr (.inr (.inr (fSh s0 s1 s2 s3)))))), (hx, .inr (10, [.ref aLa, .ref aPa, .ref aGe, .ref aFl, .ref aTr, .ref aBe, .ref aLu, .ref aLo, .ref vSf, .ref vSm, .ref vCo, .ref vSh, .int 0, .int 0, .int 1]))] := hD
      try dsimp only at hw
      refine k_topi (v := (-11)) hw ?_
      exact W.iret (v := (-11)) hx₀ hb hr (fun t₀ ht hW => ⟨⟨(-11), (), rfl, (lf_x_copy_17 s t c_2 c_12 c_22 c_32 c_34 c_36), trivial⟩, hS.F ht⟩) hS.2.2 dX11_copy_48
    rw [if_neg c_36] at hw
    by_cases c_38 : t = 2
    · rw [if_pos c_38] at hw
      subst hw
      refine W.eq (g2 := F0 m₀ 12 ls [.ref s2]) rfl ?_
      refine lv_astore (lv' := [(7, .ref s2), (6, .ref s3), (0, .ref hx), (1, .int s), (2, .int i), (3, .int t), (4, .int j), (5, .int n)]) hx₀ hb dX11_copy_12 hl (by decide) rfl (fun ls hl => ?_)
      refine lv_aload hx₀ hb dX11_copy_14 (lv_at hl 1 rfl) ?_
      refine lv_ifnull hx₀ hb dX11_copy_16 ?_
      refine lv_aload hx₀ hb dX11_copy_19 (lv_at hl 0 rfl) ?_
      refine lv_ifnonnull (tgt := 27) hx₀ hb dX11_copy_21 (by decide) ?_
      refine lv_aload hx₀ hb dX11_copy_27 (lv_at hl 1 rfl) ?_
      refine va_get (D := (dC, dI)) (ci := 8) (v := .int 1) (C := RX8) (T := TX8) (N := 4) hx₀ hb hts inlX8 hown hK hP 3 rfl rfl 1 (by decide) (hts (.fieldLink RX11 133 "BittenStick$Sheet" "isLost" "Z") wd_378) (fun _ h9 => h9) rfl dX11_copy_29 ?_
      refine lv_if_ne (tgt := 43) hx₀ hb dX11_copy_32 (by decide) (fun _ => ?_) (fun c9 => absurd c9 (by decide +kernel))
      refine lv_aload_n hx₀ hb dX11_copy_43 rfl (lv_at hl 2 rfl) ?_
      refine lv_iconst (v := 1) hx₀ hb dX11_copy_44 (by decide +kernel) ?_
      have hPc := hP.sub (ws' := [(hx, .inr (10, [.ref aLa, .ref aPa, .ref aGe, .ref aFl, .ref aTr, .ref aBe, .ref aLu, .ref aLo, .ref vSf, .ref vSm, .ref vCo, .ref vSh, .int 0, .int 0, .int 0]))]) [4] rfl
      have hDc := hD.sub (ws' := [(hx, .inr (10, [.ref aLa, .ref aPa, .ref aGe, .ref aFl, .ref aTr, .ref aBe, .ref aLu, .ref aLo, .ref vSf, .ref vSm, .ref vCo, .ref vSh, .int 0, .int 0, .int 0]))]) [4] (by decide) rfl
      have hFc := va_free (wc := [(hx, .inr (10, [.ref aLa, .ref aPa, .ref aGe, .ref aFl, .ref aTr, .ref aBe, .ref aLu, .ref aLo, .ref vSf, .ref vSm, .ref vCo, .ref vSh, .int 0, .int 0, .int 0]))]) hD hS hA [4] rfl
      refine va_calli (va_runV (As := [.int 1]) (rest := []) ⟨hx₀, hb, hml, hown, hts⟩ (c_found1 l dC dI cI cJ cQ H.size hx aLa aPa aGe aFl aTr aBe aLu aLo vSf vSm vCo vSh) (cwV 1 hts (kGV wd_387 wd_384 wd_385 wd_386 wd_2) rfl rfl rfl (by decide +kernel) ⟨Nat.le_of_ble_eq_true rfl, Nat.le_of_ble_eq_true rfl⟩) (k_preV (ci := 10) (q0 := 0) hK hPc hDc hN rfl rfl) rfl rfl hl.1 rfl (lv_room (Nat.le_of_ble_eq_true rfl)) dX11_copy_45 ⟨by decide +kernel, by decide +kernel⟩) hS (fun q _ h => hFc q h) hFc (fun r_39 u₀ t₀ H1 locs ht hvm hw hB hz1 hk1 hS => ?_)
      obtain ⟨hP1, hK1, hD1⟩ := hB
      rw [ht] at hP1
      obtain ⟨hP, hD⟩ := va_join (wr := [(s0, .inr (8, [.ref i0, .int 1, .int 0, .int 0])), (s1, .inr (8, [.ref i1, .int 1, .int 0, .int 0])), (s2, .inr (8, [.ref i2, .int 1, .int 0, .int 0])), (s3, .inr (8, [.ref i3, .int 1, .int 0, .int 0])), (vSh, .inl (cQ, 4, .inr (.inr (.inr (.inr (fSh s0 s1 s2 s3))))))]) (w1 := [(hx, .inr (10, [.ref aLa, .ref aPa, .ref aGe, .ref aFl, .ref aTr, .ref aBe, .ref aLu, .ref aLo, .ref vSf, .ref vSm, .ref vCo, .ref vSh, .int 0, .int 0, .int 1]))]) hP hD [4] [0, 1, 2, 3, 5] rfl rfl (by decide) (by decide) hk1 hFc hP1 hD1
      generalize H1 = H at hP hS ⊢
      have hP : va_P (dC, dI) vwCl [(s0, .inr (8, [.ref i0, .int 1, .int 0, .int 0])), (s1, .inr (8, [.ref i1, .int 1, .int 0, .int 0])), (s2, .inr (8, [.ref i2, .int 1, .int 0, .int 0])), (s3, .inr (8, [.ref i3, .int 1, .int 0, .int 0])), (vSh, .inl (cQ, 4, .inr (.inr (.inr (.inr (fSh s0 s1 s2 s3)))))), (hx, .inr (10, [.ref aLa, .ref aPa, .ref aGe, .ref aFl, .ref aTr, .ref aBe, .ref aLu, .ref aLo, .ref vSf, .ref vSm, .ref vCo, .ref vSh, .int 0, .int 0, .int 1]))] H := hP
      have hD : va_D A [(s0, .inr (8, [.ref i0, .int 1, .int 0, .int 0])), (s1, .inr (8, [.ref i1, .int 1, .int 0, .int 0])), (s2, .inr (8, [.ref i2, .int 1, .int 0, .int 0])), (s3, .inr (8, [.ref i3, .int 1, .int 0, .int 0])), (vSh, .inl (cQ, 4, .inr (.inr (.inr (.inr (fSh s0 s1 s2 s3)))))), (hx, .inr (10, [.ref aLa, .ref aPa, .ref aGe, .ref aFl, .ref aTr, .ref aBe, .ref aLu, .ref aLo, .ref vSf, .ref vSm, .ref vCo, .ref vSh, .int 0, .int 0, .int 1]))] := hD
      try dsimp only at hw
      refine k_topi (v := (-11)) hw ?_
      exact W.iret (v := (-11)) hx₀ hb hr (fun t₀ ht hW => ⟨⟨(-11), (), rfl, (lf_x_copy_18 s t c_2 c_12 c_22 c_32 c_34 c_36 c_38), trivial⟩, hS.F ht⟩) hS.2.2 dX11_copy_48
    rw [if_neg c_38] at hw
    by_cases c_40 : t = 3
    · rw [if_pos c_40] at hw
      subst hw
      refine W.eq (g2 := F0 m₀ 12 ls [.ref s3]) rfl ?_
      refine lv_astore (lv' := [(7, .ref s3), (6, .ref s3), (0, .ref hx), (1, .int s), (2, .int i), (3, .int t), (4, .int j), (5, .int n)]) hx₀ hb dX11_copy_12 hl (by decide) rfl (fun ls hl => ?_)
      refine lv_aload hx₀ hb dX11_copy_14 (lv_at hl 1 rfl) ?_
      refine lv_ifnull hx₀ hb dX11_copy_16 ?_
      refine lv_aload hx₀ hb dX11_copy_19 (lv_at hl 0 rfl) ?_
      refine lv_ifnonnull (tgt := 27) hx₀ hb dX11_copy_21 (by decide) ?_
      refine lv_aload hx₀ hb dX11_copy_27 (lv_at hl 1 rfl) ?_
      refine va_get (D := (dC, dI)) (ci := 8) (v := .int 1) (C := RX8) (T := TX8) (N := 4) hx₀ hb hts inlX8 hown hK hP 3 rfl rfl 1 (by decide) (hts (.fieldLink RX11 133 "BittenStick$Sheet" "isLost" "Z") wd_378) (fun _ h9 => h9) rfl dX11_copy_29 ?_
      refine lv_if_ne (tgt := 43) hx₀ hb dX11_copy_32 (by decide) (fun _ => ?_) (fun c9 => absurd c9 (by decide +kernel))
      refine lv_aload_n hx₀ hb dX11_copy_43 rfl (lv_at hl 2 rfl) ?_
      refine lv_iconst (v := 1) hx₀ hb dX11_copy_44 (by decide +kernel) ?_
      have hPc := hP.sub (ws' := [(hx, .inr (10, [.ref aLa, .ref aPa, .ref aGe, .ref aFl, .ref aTr, .ref aBe, .ref aLu, .ref aLo, .ref vSf, .ref vSm, .ref vCo, .ref vSh, .int 0, .int 0, .int 0]))]) [4] rfl
      have hDc := hD.sub (ws' := [(hx, .inr (10, [.ref aLa, .ref aPa, .ref aGe, .ref aFl, .ref aTr, .ref aBe, .ref aLu, .ref aLo, .ref vSf, .ref vSm, .ref vCo, .ref vSh, .int 0, .int 0, .int 0]))]) [4] (by decide) rfl
      have hFc := va_free (wc := [(hx, .inr (10, [.ref aLa, .ref aPa, .ref aGe, .ref aFl, .ref aTr, .ref aBe, .ref aLu, .ref aLo, .ref vSf, .ref vSm, .ref vCo, .ref vSh, .int 0, .int 0, .int 0]))]) hD hS hA [4] rfl
      refine va_calli (va_runV (As := [.int 1]) (rest := []) ⟨hx₀, hb, hml, hown, hts⟩ (c_found1 l dC dI cI cJ cQ H.size hx aLa aPa aGe aFl aTr aBe aLu aLo vSf vSm vCo vSh) (cwV 1 hts (kGV wd_387 wd_384 wd_385 wd_386 wd_2) rfl rfl rfl (by decide +kernel) ⟨Nat.le_of_ble_eq_true rfl, Nat.le_of_ble_eq_true rfl⟩) (k_preV (ci := 10) (q0 := 0) hK hPc hDc hN rfl rfl) rfl rfl hl.1 rfl (lv_room (Nat.le_of_ble_eq_true rfl)) dX11_copy_45 ⟨by decide +kernel, by decide +kernel⟩) hS (fun q _ h => hFc q h) hFc (fun r_41 u₀ t₀ H1 locs ht hvm hw hB hz1 hk1 hS => ?_)
      obtain ⟨hP1, hK1, hD1⟩ := hB
      rw [ht] at hP1
      obtain ⟨hP, hD⟩ := va_join (wr := [(s0, .inr (8, [.ref i0, .int 1, .int 0, .int 0])), (s1, .inr (8, [.ref i1, .int 1, .int 0, .int 0])), (s2, .inr (8, [.ref i2, .int 1, .int 0, .int 0])), (s3, .inr (8, [.ref i3, .int 1, .int 0, .int 0])), (vSh, .inl (cQ, 4, .inr (.inr (.inr (.inr (fSh s0 s1 s2 s3))))))]) (w1 := [(hx, .inr (10, [.ref aLa, .ref aPa, .ref aGe, .ref aFl, .ref aTr, .ref aBe, .ref aLu, .ref aLo, .ref vSf, .ref vSm, .ref vCo, .ref vSh, .int 0, .int 0, .int 1]))]) hP hD [4] [0, 1, 2, 3, 5] rfl rfl (by decide) (by decide) hk1 hFc hP1 hD1
      generalize H1 = H at hP hS ⊢
      have hP : va_P (dC, dI) vwCl [(s0, .inr (8, [.ref i0, .int 1, .int 0, .int 0])), (s1, .inr (8, [.ref i1, .int 1, .int 0, .int 0])), (s2, .inr (8, [.ref i2, .int 1, .int 0, .int 0])), (s3, .inr (8, [.ref i3, .int 1, .int 0, .int 0])), (vSh, .inl (cQ, 4, .inr (.inr (.inr (.inr (fSh s0 s1 s2 s3)))))), (hx, .inr (10, [.ref aLa, .ref aPa, .ref aGe, .ref aFl, .ref aTr, .ref aBe, .ref aLu, .ref aLo, .ref vSf, .ref vSm, .ref vCo, .ref vSh, .int 0, .int 0, .int 1]))] H := hP
      have hD : va_D A [(s0, .inr (8, [.ref i0, .int 1, .int 0, .int 0])), (s1, .inr (8, [.ref i1, .int 1, .int 0, .int 0])), (s2, .inr (8, [.ref i2, .int 1, .int 0, .int 0])), (s3, .inr (8, [.ref i3, .int 1, .int 0, .int 0])), (vSh, .inl (cQ, 4, .inr (.inr (.inr (.inr (fSh s0 s1 s2 s3)))))), (hx, .inr (10, [.ref aLa, .ref aPa, .ref aGe, .ref aFl, .ref aTr, .ref aBe, .ref aLu, .ref aLo, .ref vSf, .ref vSm, .ref vCo, .ref vSh, .int 0, .int 0, .int 1]))] := hD
      try dsimp only at hw
      refine k_topi (v := (-11)) hw ?_
      exact W.iret (v := (-11)) hx₀ hb hr (fun t₀ ht hW => ⟨⟨(-11), (), rfl, (lf_x_copy_19 s t c_2 c_12 c_22 c_32 c_34 c_36 c_38 c_40), trivial⟩, hS.F ht⟩) hS.2.2 dX11_copy_48
    rw [if_neg c_40] at hw
    subst hw
    refine W.eq (g2 := F0 m₀ 12 ls [.null]) rfl ?_
    refine lv_astoreN (lv' := [(7, .null), (6, .ref s3), (0, .ref hx), (1, .int s), (2, .int i), (3, .int t), (4, .int j), (5, .int n)]) hx₀ hb dX11_copy_12 hl (by decide) rfl (fun ls hl => ?_)
    refine lv_aload hx₀ hb dX11_copy_14 (lv_at hl 1 rfl) ?_
    refine lv_ifnull hx₀ hb dX11_copy_16 ?_
    refine lv_aloadN hx₀ hb dX11_copy_19 (lv_at hl 0 rfl) ?_
    refine lv_ifnonnullN hx₀ hb dX11_copy_21 ?_
    refine lv_bipush (v := (-2)) hx₀ hb dX11_copy_24 (by decide +kernel) ?_
    exact W.iret (v := (-2)) hx₀ hb hr (fun t₀ ht hW => ⟨⟨(-2), (), rfl, (lf_x_copy_20 s t c_2 c_12 c_22 c_32 c_34 c_36 c_38 c_40), trivial⟩, hS.F ht⟩) hS.2.2 dX11_copy_26
  rw [if_neg c_32] at hw
  subst hw
  refine W.eq (g2 := F0 m₀ 5 ls [.null]) rfl ?_
  refine lv_astoreN (lv' := [(6, .null), (0, .ref hx), (1, .int s), (2, .int i), (3, .int t), (4, .int j), (5, .int n)]) hx₀ hb dX11_copy_5 hl (by decide) rfl (fun ls hl => ?_)
  refine lv_aload_n hx₀ hb dX11_copy_7 rfl (lv_at hl 1 rfl) ?_
  refine lv_iload_n hx₀ hb dX11_copy_8 rfl (lv_at hl 4 rfl) ?_
  have hPc := hP.sub (ws' := [(hx, .inr (10, [.ref aLa, .ref aPa, .ref aGe, .ref aFl, .ref aTr, .ref aBe, .ref aLu, .ref aLo, .ref vSf, .ref vSm, .ref vCo, .ref vSh, .int 0, .int 0, .int 0])), (vSh, .inl (cQ, 4, .inr (.inr (.inr (.inr (fSh s0 s1 s2 s3))))))]) [4, 5] rfl
  have hDc := hD.sub (ws' := [(hx, .inr (10, [.ref aLa, .ref aPa, .ref aGe, .ref aFl, .ref aTr, .ref aBe, .ref aLu, .ref aLo, .ref vSf, .ref vSm, .ref vCo, .ref vSh, .int 0, .int 0, .int 0])), (vSh, .inl (cQ, 4, .inr (.inr (.inr (.inr (fSh s0 s1 s2 s3))))))]) [4, 5] (by decide) rfl
  have hFc := va_free (wc := [(hx, .inr (10, [.ref aLa, .ref aPa, .ref aGe, .ref aFl, .ref aTr, .ref aBe, .ref aLu, .ref aLo, .ref vSf, .ref vSm, .ref vCo, .ref vSh, .int 0, .int 0, .int 0])), (vSh, .inl (cQ, 4, .inr (.inr (.inr (.inr (fSh s0 s1 s2 s3))))))]) hD hS hA [4, 5] rfl
  refine va_callq (va_runV (As := [.int t]) (rest := []) ⟨hx₀, hb, hml, hown, hts⟩ (c_sheetOf l dC dI cI cJ cQ H.size hx t aLa aPa aGe aFl aTr aBe aLu aLo vSf vSm vCo vSh s0 s1 s2 s3) (cwV 1 hts (kGV wd_383 wd_380 wd_381 wd_382 wd_2) rfl rfl rfl (by decide +kernel) ⟨Nat.le_of_ble_eq_true rfl, Nat.le_of_ble_eq_true rfl⟩) (k_preV (ci := 10) (q0 := 0) hK hPc hDc hN rfl rfl) rfl rfl hl.1 rfl (lv_room (Nat.le_of_ble_eq_true rfl)) dX11_copy_9 ⟨by decide +kernel, by decide +kernel⟩) hS (fun q _ h => hFc q h) hFc (fun r_42 u₀ t₀ H1 locs ht hvm hw hB hz1 hk1 hS => ?_)
  obtain ⟨hP1, hK1, hD1⟩ := hB
  rw [ht] at hP1
  obtain ⟨hP, hD⟩ := va_join (wr := [(s0, .inr (8, [.ref i0, .int 1, .int 0, .int 0])), (s1, .inr (8, [.ref i1, .int 1, .int 0, .int 0])), (s2, .inr (8, [.ref i2, .int 1, .int 0, .int 0])), (s3, .inr (8, [.ref i3, .int 1, .int 0, .int 0]))]) (w1 := [(hx, .inr (10, [.ref aLa, .ref aPa, .ref aGe, .ref aFl, .ref aTr, .ref aBe, .ref aLu, .ref aLo, .ref vSf, .ref vSm, .ref vCo, .ref vSh, .int 0, .int 0, .int 0])), (vSh, .inl (cQ, 4, .inr (.inr (.inr (.inr (fSh s0 s1 s2 s3))))))]) hP hD [4, 5] [0, 1, 2, 3] rfl rfl (by decide) (by decide) hk1 hFc hP1 hD1
  generalize H1 = H at hP hS ⊢
  have hP : va_P (dC, dI) vwCl [(s0, .inr (8, [.ref i0, .int 1, .int 0, .int 0])), (s1, .inr (8, [.ref i1, .int 1, .int 0, .int 0])), (s2, .inr (8, [.ref i2, .int 1, .int 0, .int 0])), (s3, .inr (8, [.ref i3, .int 1, .int 0, .int 0])), (hx, .inr (10, [.ref aLa, .ref aPa, .ref aGe, .ref aFl, .ref aTr, .ref aBe, .ref aLu, .ref aLo, .ref vSf, .ref vSm, .ref vCo, .ref vSh, .int 0, .int 0, .int 0])), (vSh, .inl (cQ, 4, .inr (.inr (.inr (.inr (fSh s0 s1 s2 s3))))))] H := hP
  have hD : va_D A [(s0, .inr (8, [.ref i0, .int 1, .int 0, .int 0])), (s1, .inr (8, [.ref i1, .int 1, .int 0, .int 0])), (s2, .inr (8, [.ref i2, .int 1, .int 0, .int 0])), (s3, .inr (8, [.ref i3, .int 1, .int 0, .int 0])), (hx, .inr (10, [.ref aLa, .ref aPa, .ref aGe, .ref aFl, .ref aTr, .ref aBe, .ref aLu, .ref aLo, .ref vSf, .ref vSm, .ref vCo, .ref vSh, .int 0, .int 0, .int 0])), (vSh, .inl (cQ, 4, .inr (.inr (.inr (.inr (fSh s0 s1 s2 s3))))))] := hD
  try dsimp only at hw
  by_cases c_43 : t = 0
  · rw [if_pos c_43] at hw
    subst hw
    refine W.eq (g2 := F0 m₀ 12 ls [.ref s0]) rfl ?_
    refine lv_astore (lv' := [(7, .ref s0), (6, .null), (0, .ref hx), (1, .int s), (2, .int i), (3, .int t), (4, .int j), (5, .int n)]) hx₀ hb dX11_copy_12 hl (by decide) rfl (fun ls hl => ?_)
    refine lv_aloadN hx₀ hb dX11_copy_14 (lv_at hl 1 rfl) ?_
    refine lv_ifnullN (tgt := 24) hx₀ hb dX11_copy_16 (by decide) ?_
    refine lv_bipush (v := (-2)) hx₀ hb dX11_copy_24 (by decide +kernel) ?_
    exact W.iret (v := (-2)) hx₀ hb hr (fun t₀ ht hW => ⟨⟨(-2), (), rfl, (lf_x_copy_21 s t c_2 c_12 c_22 c_32 c_43), trivial⟩, hS.F ht⟩) hS.2.2 dX11_copy_26
  rw [if_neg c_43] at hw
  by_cases c_44 : t = 1
  · rw [if_pos c_44] at hw
    subst hw
    refine W.eq (g2 := F0 m₀ 12 ls [.ref s1]) rfl ?_
    refine lv_astore (lv' := [(7, .ref s1), (6, .null), (0, .ref hx), (1, .int s), (2, .int i), (3, .int t), (4, .int j), (5, .int n)]) hx₀ hb dX11_copy_12 hl (by decide) rfl (fun ls hl => ?_)
    refine lv_aloadN hx₀ hb dX11_copy_14 (lv_at hl 1 rfl) ?_
    refine lv_ifnullN (tgt := 24) hx₀ hb dX11_copy_16 (by decide) ?_
    refine lv_bipush (v := (-2)) hx₀ hb dX11_copy_24 (by decide +kernel) ?_
    exact W.iret (v := (-2)) hx₀ hb hr (fun t₀ ht hW => ⟨⟨(-2), (), rfl, (lf_x_copy_22 s t c_2 c_12 c_22 c_32 c_43 c_44), trivial⟩, hS.F ht⟩) hS.2.2 dX11_copy_26
  rw [if_neg c_44] at hw
  by_cases c_45 : t = 2
  · rw [if_pos c_45] at hw
    subst hw
    refine W.eq (g2 := F0 m₀ 12 ls [.ref s2]) rfl ?_
    refine lv_astore (lv' := [(7, .ref s2), (6, .null), (0, .ref hx), (1, .int s), (2, .int i), (3, .int t), (4, .int j), (5, .int n)]) hx₀ hb dX11_copy_12 hl (by decide) rfl (fun ls hl => ?_)
    refine lv_aloadN hx₀ hb dX11_copy_14 (lv_at hl 1 rfl) ?_
    refine lv_ifnullN (tgt := 24) hx₀ hb dX11_copy_16 (by decide) ?_
    refine lv_bipush (v := (-2)) hx₀ hb dX11_copy_24 (by decide +kernel) ?_
    exact W.iret (v := (-2)) hx₀ hb hr (fun t₀ ht hW => ⟨⟨(-2), (), rfl, (lf_x_copy_23 s t c_2 c_12 c_22 c_32 c_43 c_44 c_45), trivial⟩, hS.F ht⟩) hS.2.2 dX11_copy_26
  rw [if_neg c_45] at hw
  by_cases c_46 : t = 3
  · rw [if_pos c_46] at hw
    subst hw
    refine W.eq (g2 := F0 m₀ 12 ls [.ref s3]) rfl ?_
    refine lv_astore (lv' := [(7, .ref s3), (6, .null), (0, .ref hx), (1, .int s), (2, .int i), (3, .int t), (4, .int j), (5, .int n)]) hx₀ hb dX11_copy_12 hl (by decide) rfl (fun ls hl => ?_)
    refine lv_aloadN hx₀ hb dX11_copy_14 (lv_at hl 1 rfl) ?_
    refine lv_ifnullN (tgt := 24) hx₀ hb dX11_copy_16 (by decide) ?_
    refine lv_bipush (v := (-2)) hx₀ hb dX11_copy_24 (by decide +kernel) ?_
    exact W.iret (v := (-2)) hx₀ hb hr (fun t₀ ht hW => ⟨⟨(-2), (), rfl, (lf_x_copy_24 s t c_2 c_12 c_22 c_32 c_43 c_44 c_45 c_46), trivial⟩, hS.F ht⟩) hS.2.2 dX11_copy_26
  rw [if_neg c_46] at hw
  subst hw
  refine W.eq (g2 := F0 m₀ 12 ls [.null]) rfl ?_
  refine lv_astoreN (lv' := [(7, .null), (6, .null), (0, .ref hx), (1, .int s), (2, .int i), (3, .int t), (4, .int j), (5, .int n)]) hx₀ hb dX11_copy_12 hl (by decide) rfl (fun ls hl => ?_)
  refine lv_aloadN hx₀ hb dX11_copy_14 (lv_at hl 1 rfl) ?_
  refine lv_ifnullN (tgt := 24) hx₀ hb dX11_copy_16 (by decide) ?_
  refine lv_bipush (v := (-2)) hx₀ hb dX11_copy_24 (by decide +kernel) ?_
  exact W.iret (v := (-2)) hx₀ hb hr (fun t₀ ht hW => ⟨⟨(-2), (), rfl, (lf_x_copy_25 s t c_2 c_12 c_22 c_32 c_43 c_44 c_45 c_46), trivial⟩, hS.F ht⟩) hS.2.2 dX11_copy_26
theorem lf_x_write_1 (s : Int32) (c_2 : s = 0) : ((-2) : Int32) = -2 := by
  first | rfl | decide | (first | omega | (simp only [Int64.le_iff_toInt_le, Int64.lt_iff_toInt_lt, Int32.le_iff_toInt_le, Int32.lt_iff_toInt_lt, ← Int32.toInt_inj, ← Int64.toInt_inj, Int32.toInt_toInt64, (show (-2 : Int32).toInt = -2 from by decide), (show (-2 : Int64).toInt = -2 from by decide), (show (0 : Int32).toInt = 0 from by decide), (show (0 : Int64).toInt = 0 from by decide)] at *; omega))
theorem lf_x_write_2 (s : Int32) (c_2 : ¬ (s = 0)) (c_4 : s = 1) : ((-2) : Int32) = -2 := by
  first | rfl | decide | (first | omega | (simp only [Int64.le_iff_toInt_le, Int64.lt_iff_toInt_lt, Int32.le_iff_toInt_le, Int32.lt_iff_toInt_lt, ← Int32.toInt_inj, ← Int64.toInt_inj, Int32.toInt_toInt64, (show (-2 : Int32).toInt = -2 from by decide), (show (-2 : Int64).toInt = -2 from by decide), (show (0 : Int32).toInt = 0 from by decide), (show (0 : Int64).toInt = 0 from by decide), (show (1 : Int32).toInt = 1 from by decide), (show (1 : Int64).toInt = 1 from by decide)] at *; omega))
theorem lf_x_write_3 (s : Int32) (c_2 : ¬ (s = 0)) (c_4 : ¬ (s = 1)) (c_6 : s = 2) : ((-2) : Int32) = -2 := by
  first | rfl | decide | (first | omega | (simp only [Int64.le_iff_toInt_le, Int64.lt_iff_toInt_lt, Int32.le_iff_toInt_le, Int32.lt_iff_toInt_lt, ← Int32.toInt_inj, ← Int64.toInt_inj, Int32.toInt_toInt64, (show (-2 : Int32).toInt = -2 from by decide), (show (-2 : Int64).toInt = -2 from by decide), (show (0 : Int32).toInt = 0 from by decide), (show (0 : Int64).toInt = 0 from by decide), (show (1 : Int32).toInt = 1 from by decide), (show (1 : Int64).toInt = 1 from by decide), (show (2 : Int32).toInt = 2 from by decide), (show (2 : Int64).toInt = 2 from by decide)] at *; omega))
theorem lf_x_write_4 (s : Int32) (c_2 : ¬ (s = 0)) (c_4 : ¬ (s = 1)) (c_6 : ¬ (s = 2)) (c_8 : s = 3) : ((-2) : Int32) = -2 := by
  first | rfl | decide | (first | omega | (simp only [Int64.le_iff_toInt_le, Int64.lt_iff_toInt_lt, Int32.le_iff_toInt_le, Int32.lt_iff_toInt_lt, ← Int32.toInt_inj, ← Int64.toInt_inj, Int32.toInt_toInt64, (show (-2 : Int32).toInt = -2 from by decide), (show (-2 : Int64).toInt = -2 from by decide), (show (0 : Int32).toInt = 0 from by decide), (show (0 : Int64).toInt = 0 from by decide), (show (1 : Int32).toInt = 1 from by decide), (show (1 : Int64).toInt = 1 from by decide), (show (2 : Int32).toInt = 2 from by decide), (show (2 : Int64).toInt = 2 from by decide), (show (3 : Int32).toInt = 3 from by decide), (show (3 : Int64).toInt = 3 from by decide)] at *; omega))
theorem lf_x_write_5 (s : Int32) (c_2 : ¬ (s = 0)) (c_4 : ¬ (s = 1)) (c_6 : ¬ (s = 2)) (c_8 : ¬ (s = 3)) : ((-2) : Int32) = -2 := by
  first | rfl | decide | (first | omega | (simp only [Int64.le_iff_toInt_le, Int64.lt_iff_toInt_lt, Int32.le_iff_toInt_le, Int32.lt_iff_toInt_lt, ← Int32.toInt_inj, ← Int64.toInt_inj, Int32.toInt_toInt64, (show (-2 : Int32).toInt = -2 from by decide), (show (-2 : Int64).toInt = -2 from by decide), (show (0 : Int32).toInt = 0 from by decide), (show (0 : Int64).toInt = 0 from by decide), (show (1 : Int32).toInt = 1 from by decide), (show (1 : Int64).toInt = 1 from by decide), (show (2 : Int32).toInt = 2 from by decide), (show (2 : Int64).toInt = 2 from by decide), (show (3 : Int32).toInt = 3 from by decide), (show (3 : Int64).toInt = 3 from by decide)] at *; omega))
set_option maxHeartbeats 4000000 in
set_option maxRecDepth 100000 in
theorem x_write (l : Launch) (dC : Nat → ClassId) (dI : Nat → Nat → Nat) (cI cJ cQ : ClassId) (sz : Nat) (hx : Nat) (f : Int32) (w : Int32) (s : Int32) (aLa : Nat) (aPa : Nat) (aGe : Nat) (aFl : Nat) (aTr : Nat) (aBe : Nat) (aLu : Nat) (aLo : Nat) (vSf : Nat) (vSm : Nat) (vCo : Nat) (vSh : Nat) (vFl : Nat) (s0 : Nat) (s1 : Nat) (s2 : Nat) (s3 : Nat) : Met l yX11_write (kW yX11_write cX11_write 7 (some .int)) { frames := 1, cells := 0, slots := 0, locals := 21 } (kPre dC dI cI cJ cQ sz [.ref hx, .int f, .int w, .int s] [(hx, .inr (10, [.ref aLa, .ref aPa, .ref aGe, .ref aFl, .ref aTr, .ref aBe, .ref aLu, .ref aLo, .ref vSf, .ref vSm, .ref vCo, .ref vSh, .int 0, .int 0, .int 0])), (vSh, .inl (cQ, 4, .inr (.inr (.inr (.inr (fSh s0 s1 s2 s3)))))), (aFl, .inr (1, [.ref vFl, .int 0]))]) (va_Qi (fun (r : Int32) (_ : Unit) => r = -2) (fun _ _ => True) (va_A [(hx, .inr (10, [.ref aLa, .ref aPa, .ref aGe, .ref aFl, .ref aTr, .ref aBe, .ref aLu, .ref aLo, .ref vSf, .ref vSm, .ref vCo, .ref vSh, .int 0, .int 0, .int 0])), (vSh, .inl (cQ, 4, .inr (.inr (.inr (.inr (fSh s0 s1 s2 s3)))))), (aFl, .inr (1, [.ref vFl, .int 0]))] sz)) 0 0 (va_A [(hx, .inr (10, [.ref aLa, .ref aPa, .ref aGe, .ref aFl, .ref aTr, .ref aBe, .ref aLu, .ref aLo, .ref vSf, .ref vSm, .ref vCo, .ref vSh, .int 0, .int 0, .int 0])), (vSh, .inl (cQ, 4, .inr (.inr (.inr (.inr (fSh s0 s1 s2 s3)))))), (aFl, .inr (1, [.ref vFl, .int 0]))] sz) := by
  refine Met.ofW (cc := cX11_write) (maxL := 7) (ret := (some .int)) (by decide) rfl ?_
  intro p₀ e₀ s₀ m₀ args below meth c₀ s₁ B hml hv₀
  obtain ⟨rfl, hsz, hP, hK, hD0, hN⟩ := hv₀
  have hx₀ := B.exec
  have hb := B.bytes
  have hr := B.returns
  have hts := atoms_spec (ws := (kW yX11_write cX11_write 7 (some .int))) B.pre
  have hts := fun w h => hts w (List.mem_cons_of_mem _ h)
  have hown : s₀.vm.findClass RX11 = some m₀.cls := findClass_of_methodNamed B.named
  have hlocks := B.notSynchronized
  subst hsz
  have hD := hD0.self (sz := s₀.heap.size)
  generalize hAe : va_A [(hx, .inr (10, [.ref aLa, .ref aPa, .ref aGe, .ref aFl, .ref aTr, .ref aBe, .ref aLu, .ref aLo, .ref vSf, .ref vSm, .ref vCo, .ref vSh, .int 0, .int 0, .int 0])), (vSh, .inl (cQ, 4, .inr (.inr (.inr (.inr (fSh s0 s1 s2 s3)))))), (aFl, .inr (1, [.ref vFl, .int 0]))] s₀.heap.size = A at hD ⊢
  have hA : ∀ q : Nat, s₀.heap.size ≤ q → A q := fun q h => by rw [← hAe]; exact Or.inr h
  have hS : va_S A s₀.heap s₀.heap [] := va_S.rf
  have hP : va_P (dC, dI) vwCl [(hx, .inr (10, [.ref aLa, .ref aPa, .ref aGe, .ref aFl, .ref aTr, .ref aBe, .ref aLu, .ref aLo, .ref vSf, .ref vSm, .ref vCo, .ref vSh, .int 0, .int 0, .int 0])), (vSh, .inl (cQ, 4, .inr (.inr (.inr (.inr (fSh s0 s1 s2 s3)))))), (aFl, .inr (1, [.ref vFl, .int 0]))] s₀.heap := hP
  have hl := lv_entry ([.ref hx, .int f, .int w, .int s]) (n := 7) (Nat.le_of_ble_eq_true rfl)
  rw [lg_entry_eq]
  generalize (lg_sl ([.ref hx, .int f, .int w, .int s]) ++ List.replicate (7 - (lg_sl ([.ref hx, .int f, .int w, .int s])).length) Slot.unset).toArray = ls at hl ⊢
  have hl : lv_has ls 7 [(0, .ref hx), (1, .int f), (2, .int w), (3, .int s)] := hl
  obtain ⟨H, hH⟩ : ∃ z : Heap, z = s₀.heap := ⟨_, rfl⟩
  rw [← hH] at hP
  have hS : va_S A s₀.heap H [] := by rw [hH]; exact hS
  refine k_heap hH ?_
  have hD : va_D A [(hx, .inr (10, [.ref aLa, .ref aPa, .ref aGe, .ref aFl, .ref aTr, .ref aBe, .ref aLu, .ref aLo, .ref vSf, .ref vSm, .ref vCo, .ref vSh, .int 0, .int 0, .int 0])), (vSh, .inl (cQ, 4, .inr (.inr (.inr (.inr (fSh s0 s1 s2 s3)))))), (aFl, .inr (1, [.ref vFl, .int 0]))] := hD
  obtain ⟨locs, hlo⟩ : ∃ z : List Loc, z = [] := ⟨_, rfl⟩
  rw [← hlo] at hS ⊢
  clear hlo hH hAe hD0
  refine lv_aload_n hx₀ hb dX11_write_0 rfl (lv_at hl 0 rfl) ?_
  refine lv_iload_n hx₀ hb dX11_write_1 rfl (lv_at hl 3 rfl) ?_
  have hPc := hP.sub (ws' := [(hx, .inr (10, [.ref aLa, .ref aPa, .ref aGe, .ref aFl, .ref aTr, .ref aBe, .ref aLu, .ref aLo, .ref vSf, .ref vSm, .ref vCo, .ref vSh, .int 0, .int 0, .int 0])), (vSh, .inl (cQ, 4, .inr (.inr (.inr (.inr (fSh s0 s1 s2 s3))))))]) [0, 1] rfl
  have hDc := hD.sub (ws' := [(hx, .inr (10, [.ref aLa, .ref aPa, .ref aGe, .ref aFl, .ref aTr, .ref aBe, .ref aLu, .ref aLo, .ref vSf, .ref vSm, .ref vCo, .ref vSh, .int 0, .int 0, .int 0])), (vSh, .inl (cQ, 4, .inr (.inr (.inr (.inr (fSh s0 s1 s2 s3))))))]) [0, 1] (by decide) rfl
  have hFc := va_free (wc := [(hx, .inr (10, [.ref aLa, .ref aPa, .ref aGe, .ref aFl, .ref aTr, .ref aBe, .ref aLu, .ref aLo, .ref vSf, .ref vSm, .ref vCo, .ref vSh, .int 0, .int 0, .int 0])), (vSh, .inl (cQ, 4, .inr (.inr (.inr (.inr (fSh s0 s1 s2 s3))))))]) hD hS hA [0, 1] rfl
  refine va_callq (va_runV (As := [.int s]) (rest := []) ⟨hx₀, hb, hml, hown, hts⟩ (c_sheetOf l dC dI cI cJ cQ H.size hx s aLa aPa aGe aFl aTr aBe aLu aLo vSf vSm vCo vSh s0 s1 s2 s3) (cwV 1 hts (kGV wd_383 wd_380 wd_381 wd_382 wd_2) rfl rfl rfl (by decide +kernel) ⟨Nat.le_of_ble_eq_true rfl, Nat.le_of_ble_eq_true rfl⟩) (k_preV (ci := 10) (q0 := 0) hK hPc hDc hN rfl rfl) rfl rfl hl.1 rfl (lv_room (Nat.le_of_ble_eq_true rfl)) dX11_write_2 ⟨by decide +kernel, by decide +kernel⟩) hS (fun q _ h => hFc q h) hFc (fun r_1 u₀ t₀ H1 locs ht hvm hw hB hz1 hk1 hS => ?_)
  obtain ⟨hP1, hK1, hD1⟩ := hB
  rw [ht] at hP1
  obtain ⟨hP, hD⟩ := va_join (wr := [(aFl, .inr (1, [.ref vFl, .int 0]))]) (w1 := [(hx, .inr (10, [.ref aLa, .ref aPa, .ref aGe, .ref aFl, .ref aTr, .ref aBe, .ref aLu, .ref aLo, .ref vSf, .ref vSm, .ref vCo, .ref vSh, .int 0, .int 0, .int 0])), (vSh, .inl (cQ, 4, .inr (.inr (.inr (.inr (fSh s0 s1 s2 s3))))))]) hP hD [0, 1] [2] rfl rfl (by decide) (by decide) hk1 hFc hP1 hD1
  generalize H1 = H at hP hS ⊢
  have hP : va_P (dC, dI) vwCl [(aFl, .inr (1, [.ref vFl, .int 0])), (hx, .inr (10, [.ref aLa, .ref aPa, .ref aGe, .ref aFl, .ref aTr, .ref aBe, .ref aLu, .ref aLo, .ref vSf, .ref vSm, .ref vCo, .ref vSh, .int 0, .int 0, .int 0])), (vSh, .inl (cQ, 4, .inr (.inr (.inr (.inr (fSh s0 s1 s2 s3))))))] H := hP
  have hD : va_D A [(aFl, .inr (1, [.ref vFl, .int 0])), (hx, .inr (10, [.ref aLa, .ref aPa, .ref aGe, .ref aFl, .ref aTr, .ref aBe, .ref aLu, .ref aLo, .ref vSf, .ref vSm, .ref vCo, .ref vSh, .int 0, .int 0, .int 0])), (vSh, .inl (cQ, 4, .inr (.inr (.inr (.inr (fSh s0 s1 s2 s3))))))] := hD
  try dsimp only at hw
  by_cases c_2 : s = 0
  · rw [if_pos c_2] at hw
    subst hw
    refine W.eq (g2 := F0 m₀ 5 ls [.ref s0]) rfl ?_
    refine lv_astore (lv' := [(4, .ref s0), (0, .ref hx), (1, .int f), (2, .int w), (3, .int s)]) hx₀ hb dX11_write_5 hl (by decide) rfl (fun ls hl => ?_)
    refine lv_aload_n hx₀ hb dX11_write_7 rfl (lv_at hl 1 rfl) ?_
    refine va_get (D := (dC, dI)) (ci := 10) (v := .ref aFl) (C := RX11) (T := TX11) (N := 15) hx₀ hb hts inlX11 hown hK hP 1 rfl rfl 3 (by decide) (hts (.fieldLink RX11 33 "BittenStick" "flights" "LBittenStick$Flights;") wd_27) (fun _ h9 => h9) rfl dX11_write_8 ?_
    refine lv_iload_n hx₀ hb dX11_write_11 rfl (lv_at hl 2 rfl) ?_
    have hPc := hP.sub (ws' := [(aFl, .inr (1, [.ref vFl, .int 0]))]) [0] rfl
    have hDc := hD.sub (ws' := [(aFl, .inr (1, [.ref vFl, .int 0]))]) [0] (by decide) rfl
    have hFc := va_free (wc := [(aFl, .inr (1, [.ref vFl, .int 0]))]) hD hS hA [0] rfl
    refine va_calli (va_runV (As := [.int f]) (rest := []) ⟨hx₀, hb, hml, hown, hts⟩ (c_has0 l dC dI cI cJ cQ H.size aFl f vFl) (cwV 1 hts (kGV wd_426 wd_423 wd_424 wd_425 wd_26) rfl rfl rfl (by decide +kernel) ⟨Nat.le_of_ble_eq_true rfl, Nat.le_of_ble_eq_true rfl⟩) (k_preV (ci := 1) (q0 := 0) hK hPc hDc hN rfl rfl) rfl rfl hl.1 rfl (lv_room (Nat.le_of_ble_eq_true rfl)) dX11_write_12 ⟨by decide +kernel, by decide +kernel⟩) hS (fun q _ h => hFc q h) hFc (fun r_3 u₀ t₀ H1 locs ht hvm hw hB hz1 hk1 hS => ?_)
    obtain ⟨hP1, hK1, hD1⟩ := hB
    rw [ht] at hP1
    obtain ⟨hP, hD⟩ := va_join (wr := [(hx, .inr (10, [.ref aLa, .ref aPa, .ref aGe, .ref aFl, .ref aTr, .ref aBe, .ref aLu, .ref aLo, .ref vSf, .ref vSm, .ref vCo, .ref vSh, .int 0, .int 0, .int 0])), (vSh, .inl (cQ, 4, .inr (.inr (.inr (.inr (fSh s0 s1 s2 s3))))))]) (w1 := [(aFl, .inr (1, [.ref vFl, .int 0]))]) hP hD [0] [1, 2] rfl rfl (by decide) (by decide) hk1 hFc hP1 hD1
    generalize H1 = H at hP hS ⊢
    have hP : va_P (dC, dI) vwCl [(hx, .inr (10, [.ref aLa, .ref aPa, .ref aGe, .ref aFl, .ref aTr, .ref aBe, .ref aLu, .ref aLo, .ref vSf, .ref vSm, .ref vCo, .ref vSh, .int 0, .int 0, .int 0])), (vSh, .inl (cQ, 4, .inr (.inr (.inr (.inr (fSh s0 s1 s2 s3)))))), (aFl, .inr (1, [.ref vFl, .int 0]))] H := hP
    have hD : va_D A [(hx, .inr (10, [.ref aLa, .ref aPa, .ref aGe, .ref aFl, .ref aTr, .ref aBe, .ref aLu, .ref aLo, .ref vSf, .ref vSm, .ref vCo, .ref vSh, .int 0, .int 0, .int 0])), (vSh, .inl (cQ, 4, .inr (.inr (.inr (.inr (fSh s0 s1 s2 s3)))))), (aFl, .inr (1, [.ref vFl, .int 0]))] := hD
    try dsimp only at hw
    refine k_topi (v := 0) hw ?_
    refine lv_if_eq (tgt := 32) hx₀ hb dX11_write_15 (by decide) (fun _ => ?_) (fun c9 => absurd (by decide +kernel) c9)
    refine lv_bipush (v := (-2)) hx₀ hb dX11_write_32 (by decide +kernel) ?_
    exact W.iret (v := (-2)) hx₀ hb hr (fun t₀ ht hW => ⟨⟨(-2), (), rfl, (lf_x_write_1 s c_2), trivial⟩, hS.F ht⟩) hS.2.2 dX11_write_34
  rw [if_neg c_2] at hw
  by_cases c_4 : s = 1
  · rw [if_pos c_4] at hw
    subst hw
    refine W.eq (g2 := F0 m₀ 5 ls [.ref s1]) rfl ?_
    refine lv_astore (lv' := [(4, .ref s1), (0, .ref hx), (1, .int f), (2, .int w), (3, .int s)]) hx₀ hb dX11_write_5 hl (by decide) rfl (fun ls hl => ?_)
    refine lv_aload_n hx₀ hb dX11_write_7 rfl (lv_at hl 1 rfl) ?_
    refine va_get (D := (dC, dI)) (ci := 10) (v := .ref aFl) (C := RX11) (T := TX11) (N := 15) hx₀ hb hts inlX11 hown hK hP 1 rfl rfl 3 (by decide) (hts (.fieldLink RX11 33 "BittenStick" "flights" "LBittenStick$Flights;") wd_27) (fun _ h9 => h9) rfl dX11_write_8 ?_
    refine lv_iload_n hx₀ hb dX11_write_11 rfl (lv_at hl 2 rfl) ?_
    have hPc := hP.sub (ws' := [(aFl, .inr (1, [.ref vFl, .int 0]))]) [0] rfl
    have hDc := hD.sub (ws' := [(aFl, .inr (1, [.ref vFl, .int 0]))]) [0] (by decide) rfl
    have hFc := va_free (wc := [(aFl, .inr (1, [.ref vFl, .int 0]))]) hD hS hA [0] rfl
    refine va_calli (va_runV (As := [.int f]) (rest := []) ⟨hx₀, hb, hml, hown, hts⟩ (c_has0 l dC dI cI cJ cQ H.size aFl f vFl) (cwV 1 hts (kGV wd_426 wd_423 wd_424 wd_425 wd_26) rfl rfl rfl (by decide +kernel) ⟨Nat.le_of_ble_eq_true rfl, Nat.le_of_ble_eq_true rfl⟩) (k_preV (ci := 1) (q0 := 0) hK hPc hDc hN rfl rfl) rfl rfl hl.1 rfl (lv_room (Nat.le_of_ble_eq_true rfl)) dX11_write_12 ⟨by decide +kernel, by decide +kernel⟩) hS (fun q _ h => hFc q h) hFc (fun r_5 u₀ t₀ H1 locs ht hvm hw hB hz1 hk1 hS => ?_)
    obtain ⟨hP1, hK1, hD1⟩ := hB
    rw [ht] at hP1
    obtain ⟨hP, hD⟩ := va_join (wr := [(hx, .inr (10, [.ref aLa, .ref aPa, .ref aGe, .ref aFl, .ref aTr, .ref aBe, .ref aLu, .ref aLo, .ref vSf, .ref vSm, .ref vCo, .ref vSh, .int 0, .int 0, .int 0])), (vSh, .inl (cQ, 4, .inr (.inr (.inr (.inr (fSh s0 s1 s2 s3))))))]) (w1 := [(aFl, .inr (1, [.ref vFl, .int 0]))]) hP hD [0] [1, 2] rfl rfl (by decide) (by decide) hk1 hFc hP1 hD1
    generalize H1 = H at hP hS ⊢
    have hP : va_P (dC, dI) vwCl [(hx, .inr (10, [.ref aLa, .ref aPa, .ref aGe, .ref aFl, .ref aTr, .ref aBe, .ref aLu, .ref aLo, .ref vSf, .ref vSm, .ref vCo, .ref vSh, .int 0, .int 0, .int 0])), (vSh, .inl (cQ, 4, .inr (.inr (.inr (.inr (fSh s0 s1 s2 s3)))))), (aFl, .inr (1, [.ref vFl, .int 0]))] H := hP
    have hD : va_D A [(hx, .inr (10, [.ref aLa, .ref aPa, .ref aGe, .ref aFl, .ref aTr, .ref aBe, .ref aLu, .ref aLo, .ref vSf, .ref vSm, .ref vCo, .ref vSh, .int 0, .int 0, .int 0])), (vSh, .inl (cQ, 4, .inr (.inr (.inr (.inr (fSh s0 s1 s2 s3)))))), (aFl, .inr (1, [.ref vFl, .int 0]))] := hD
    try dsimp only at hw
    refine k_topi (v := 0) hw ?_
    refine lv_if_eq (tgt := 32) hx₀ hb dX11_write_15 (by decide) (fun _ => ?_) (fun c9 => absurd (by decide +kernel) c9)
    refine lv_bipush (v := (-2)) hx₀ hb dX11_write_32 (by decide +kernel) ?_
    exact W.iret (v := (-2)) hx₀ hb hr (fun t₀ ht hW => ⟨⟨(-2), (), rfl, (lf_x_write_2 s c_2 c_4), trivial⟩, hS.F ht⟩) hS.2.2 dX11_write_34
  rw [if_neg c_4] at hw
  by_cases c_6 : s = 2
  · rw [if_pos c_6] at hw
    subst hw
    refine W.eq (g2 := F0 m₀ 5 ls [.ref s2]) rfl ?_
    refine lv_astore (lv' := [(4, .ref s2), (0, .ref hx), (1, .int f), (2, .int w), (3, .int s)]) hx₀ hb dX11_write_5 hl (by decide) rfl (fun ls hl => ?_)
    refine lv_aload_n hx₀ hb dX11_write_7 rfl (lv_at hl 1 rfl) ?_
    refine va_get (D := (dC, dI)) (ci := 10) (v := .ref aFl) (C := RX11) (T := TX11) (N := 15) hx₀ hb hts inlX11 hown hK hP 1 rfl rfl 3 (by decide) (hts (.fieldLink RX11 33 "BittenStick" "flights" "LBittenStick$Flights;") wd_27) (fun _ h9 => h9) rfl dX11_write_8 ?_
    refine lv_iload_n hx₀ hb dX11_write_11 rfl (lv_at hl 2 rfl) ?_
    have hPc := hP.sub (ws' := [(aFl, .inr (1, [.ref vFl, .int 0]))]) [0] rfl
    have hDc := hD.sub (ws' := [(aFl, .inr (1, [.ref vFl, .int 0]))]) [0] (by decide) rfl
    have hFc := va_free (wc := [(aFl, .inr (1, [.ref vFl, .int 0]))]) hD hS hA [0] rfl
    refine va_calli (va_runV (As := [.int f]) (rest := []) ⟨hx₀, hb, hml, hown, hts⟩ (c_has0 l dC dI cI cJ cQ H.size aFl f vFl) (cwV 1 hts (kGV wd_426 wd_423 wd_424 wd_425 wd_26) rfl rfl rfl (by decide +kernel) ⟨Nat.le_of_ble_eq_true rfl, Nat.le_of_ble_eq_true rfl⟩) (k_preV (ci := 1) (q0 := 0) hK hPc hDc hN rfl rfl) rfl rfl hl.1 rfl (lv_room (Nat.le_of_ble_eq_true rfl)) dX11_write_12 ⟨by decide +kernel, by decide +kernel⟩) hS (fun q _ h => hFc q h) hFc (fun r_7 u₀ t₀ H1 locs ht hvm hw hB hz1 hk1 hS => ?_)
    obtain ⟨hP1, hK1, hD1⟩ := hB
    rw [ht] at hP1
    obtain ⟨hP, hD⟩ := va_join (wr := [(hx, .inr (10, [.ref aLa, .ref aPa, .ref aGe, .ref aFl, .ref aTr, .ref aBe, .ref aLu, .ref aLo, .ref vSf, .ref vSm, .ref vCo, .ref vSh, .int 0, .int 0, .int 0])), (vSh, .inl (cQ, 4, .inr (.inr (.inr (.inr (fSh s0 s1 s2 s3))))))]) (w1 := [(aFl, .inr (1, [.ref vFl, .int 0]))]) hP hD [0] [1, 2] rfl rfl (by decide) (by decide) hk1 hFc hP1 hD1
    generalize H1 = H at hP hS ⊢
    have hP : va_P (dC, dI) vwCl [(hx, .inr (10, [.ref aLa, .ref aPa, .ref aGe, .ref aFl, .ref aTr, .ref aBe, .ref aLu, .ref aLo, .ref vSf, .ref vSm, .ref vCo, .ref vSh, .int 0, .int 0, .int 0])), (vSh, .inl (cQ, 4, .inr (.inr (.inr (.inr (fSh s0 s1 s2 s3)))))), (aFl, .inr (1, [.ref vFl, .int 0]))] H := hP
    have hD : va_D A [(hx, .inr (10, [.ref aLa, .ref aPa, .ref aGe, .ref aFl, .ref aTr, .ref aBe, .ref aLu, .ref aLo, .ref vSf, .ref vSm, .ref vCo, .ref vSh, .int 0, .int 0, .int 0])), (vSh, .inl (cQ, 4, .inr (.inr (.inr (.inr (fSh s0 s1 s2 s3)))))), (aFl, .inr (1, [.ref vFl, .int 0]))] := hD
    try dsimp only at hw
    refine k_topi (v := 0) hw ?_
    refine lv_if_eq (tgt := 32) hx₀ hb dX11_write_15 (by decide) (fun _ => ?_) (fun c9 => absurd (by decide +kernel) c9)
    refine lv_bipush (v := (-2)) hx₀ hb dX11_write_32 (by decide +kernel) ?_
    exact W.iret (v := (-2)) hx₀ hb hr (fun t₀ ht hW => ⟨⟨(-2), (), rfl, (lf_x_write_3 s c_2 c_4 c_6), trivial⟩, hS.F ht⟩) hS.2.2 dX11_write_34
  rw [if_neg c_6] at hw
  by_cases c_8 : s = 3
  · rw [if_pos c_8] at hw
    subst hw
    refine W.eq (g2 := F0 m₀ 5 ls [.ref s3]) rfl ?_
    refine lv_astore (lv' := [(4, .ref s3), (0, .ref hx), (1, .int f), (2, .int w), (3, .int s)]) hx₀ hb dX11_write_5 hl (by decide) rfl (fun ls hl => ?_)
    refine lv_aload_n hx₀ hb dX11_write_7 rfl (lv_at hl 1 rfl) ?_
    refine va_get (D := (dC, dI)) (ci := 10) (v := .ref aFl) (C := RX11) (T := TX11) (N := 15) hx₀ hb hts inlX11 hown hK hP 1 rfl rfl 3 (by decide) (hts (.fieldLink RX11 33 "BittenStick" "flights" "LBittenStick$Flights;") wd_27) (fun _ h9 => h9) rfl dX11_write_8 ?_
    refine lv_iload_n hx₀ hb dX11_write_11 rfl (lv_at hl 2 rfl) ?_
    have hPc := hP.sub (ws' := [(aFl, .inr (1, [.ref vFl, .int 0]))]) [0] rfl
    have hDc := hD.sub (ws' := [(aFl, .inr (1, [.ref vFl, .int 0]))]) [0] (by decide) rfl
    have hFc := va_free (wc := [(aFl, .inr (1, [.ref vFl, .int 0]))]) hD hS hA [0] rfl
    refine va_calli (va_runV (As := [.int f]) (rest := []) ⟨hx₀, hb, hml, hown, hts⟩ (c_has0 l dC dI cI cJ cQ H.size aFl f vFl) (cwV 1 hts (kGV wd_426 wd_423 wd_424 wd_425 wd_26) rfl rfl rfl (by decide +kernel) ⟨Nat.le_of_ble_eq_true rfl, Nat.le_of_ble_eq_true rfl⟩) (k_preV (ci := 1) (q0 := 0) hK hPc hDc hN rfl rfl) rfl rfl hl.1 rfl (lv_room (Nat.le_of_ble_eq_true rfl)) dX11_write_12 ⟨by decide +kernel, by decide +kernel⟩) hS (fun q _ h => hFc q h) hFc (fun r_9 u₀ t₀ H1 locs ht hvm hw hB hz1 hk1 hS => ?_)
    obtain ⟨hP1, hK1, hD1⟩ := hB
    rw [ht] at hP1
    obtain ⟨hP, hD⟩ := va_join (wr := [(hx, .inr (10, [.ref aLa, .ref aPa, .ref aGe, .ref aFl, .ref aTr, .ref aBe, .ref aLu, .ref aLo, .ref vSf, .ref vSm, .ref vCo, .ref vSh, .int 0, .int 0, .int 0])), (vSh, .inl (cQ, 4, .inr (.inr (.inr (.inr (fSh s0 s1 s2 s3))))))]) (w1 := [(aFl, .inr (1, [.ref vFl, .int 0]))]) hP hD [0] [1, 2] rfl rfl (by decide) (by decide) hk1 hFc hP1 hD1
    generalize H1 = H at hP hS ⊢
    have hP : va_P (dC, dI) vwCl [(hx, .inr (10, [.ref aLa, .ref aPa, .ref aGe, .ref aFl, .ref aTr, .ref aBe, .ref aLu, .ref aLo, .ref vSf, .ref vSm, .ref vCo, .ref vSh, .int 0, .int 0, .int 0])), (vSh, .inl (cQ, 4, .inr (.inr (.inr (.inr (fSh s0 s1 s2 s3)))))), (aFl, .inr (1, [.ref vFl, .int 0]))] H := hP
    have hD : va_D A [(hx, .inr (10, [.ref aLa, .ref aPa, .ref aGe, .ref aFl, .ref aTr, .ref aBe, .ref aLu, .ref aLo, .ref vSf, .ref vSm, .ref vCo, .ref vSh, .int 0, .int 0, .int 0])), (vSh, .inl (cQ, 4, .inr (.inr (.inr (.inr (fSh s0 s1 s2 s3)))))), (aFl, .inr (1, [.ref vFl, .int 0]))] := hD
    try dsimp only at hw
    refine k_topi (v := 0) hw ?_
    refine lv_if_eq (tgt := 32) hx₀ hb dX11_write_15 (by decide) (fun _ => ?_) (fun c9 => absurd (by decide +kernel) c9)
    refine lv_bipush (v := (-2)) hx₀ hb dX11_write_32 (by decide +kernel) ?_
    exact W.iret (v := (-2)) hx₀ hb hr (fun t₀ ht hW => ⟨⟨(-2), (), rfl, (lf_x_write_4 s c_2 c_4 c_6 c_8), trivial⟩, hS.F ht⟩) hS.2.2 dX11_write_34
  rw [if_neg c_8] at hw
  subst hw
  refine W.eq (g2 := F0 m₀ 5 ls [.null]) rfl ?_
  refine lv_astoreN (lv' := [(4, .null), (0, .ref hx), (1, .int f), (2, .int w), (3, .int s)]) hx₀ hb dX11_write_5 hl (by decide) rfl (fun ls hl => ?_)
  refine lv_aload_n hx₀ hb dX11_write_7 rfl (lv_at hl 1 rfl) ?_
  refine va_get (D := (dC, dI)) (ci := 10) (v := .ref aFl) (C := RX11) (T := TX11) (N := 15) hx₀ hb hts inlX11 hown hK hP 1 rfl rfl 3 (by decide) (hts (.fieldLink RX11 33 "BittenStick" "flights" "LBittenStick$Flights;") wd_27) (fun _ h9 => h9) rfl dX11_write_8 ?_
  refine lv_iload_n hx₀ hb dX11_write_11 rfl (lv_at hl 2 rfl) ?_
  have hPc := hP.sub (ws' := [(aFl, .inr (1, [.ref vFl, .int 0]))]) [0] rfl
  have hDc := hD.sub (ws' := [(aFl, .inr (1, [.ref vFl, .int 0]))]) [0] (by decide) rfl
  have hFc := va_free (wc := [(aFl, .inr (1, [.ref vFl, .int 0]))]) hD hS hA [0] rfl
  refine va_calli (va_runV (As := [.int f]) (rest := []) ⟨hx₀, hb, hml, hown, hts⟩ (c_has0 l dC dI cI cJ cQ H.size aFl f vFl) (cwV 1 hts (kGV wd_426 wd_423 wd_424 wd_425 wd_26) rfl rfl rfl (by decide +kernel) ⟨Nat.le_of_ble_eq_true rfl, Nat.le_of_ble_eq_true rfl⟩) (k_preV (ci := 1) (q0 := 0) hK hPc hDc hN rfl rfl) rfl rfl hl.1 rfl (lv_room (Nat.le_of_ble_eq_true rfl)) dX11_write_12 ⟨by decide +kernel, by decide +kernel⟩) hS (fun q _ h => hFc q h) hFc (fun r_10 u₀ t₀ H1 locs ht hvm hw hB hz1 hk1 hS => ?_)
  obtain ⟨hP1, hK1, hD1⟩ := hB
  rw [ht] at hP1
  obtain ⟨hP, hD⟩ := va_join (wr := [(hx, .inr (10, [.ref aLa, .ref aPa, .ref aGe, .ref aFl, .ref aTr, .ref aBe, .ref aLu, .ref aLo, .ref vSf, .ref vSm, .ref vCo, .ref vSh, .int 0, .int 0, .int 0])), (vSh, .inl (cQ, 4, .inr (.inr (.inr (.inr (fSh s0 s1 s2 s3))))))]) (w1 := [(aFl, .inr (1, [.ref vFl, .int 0]))]) hP hD [0] [1, 2] rfl rfl (by decide) (by decide) hk1 hFc hP1 hD1
  generalize H1 = H at hP hS ⊢
  have hP : va_P (dC, dI) vwCl [(hx, .inr (10, [.ref aLa, .ref aPa, .ref aGe, .ref aFl, .ref aTr, .ref aBe, .ref aLu, .ref aLo, .ref vSf, .ref vSm, .ref vCo, .ref vSh, .int 0, .int 0, .int 0])), (vSh, .inl (cQ, 4, .inr (.inr (.inr (.inr (fSh s0 s1 s2 s3)))))), (aFl, .inr (1, [.ref vFl, .int 0]))] H := hP
  have hD : va_D A [(hx, .inr (10, [.ref aLa, .ref aPa, .ref aGe, .ref aFl, .ref aTr, .ref aBe, .ref aLu, .ref aLo, .ref vSf, .ref vSm, .ref vCo, .ref vSh, .int 0, .int 0, .int 0])), (vSh, .inl (cQ, 4, .inr (.inr (.inr (.inr (fSh s0 s1 s2 s3)))))), (aFl, .inr (1, [.ref vFl, .int 0]))] := hD
  try dsimp only at hw
  refine k_topi (v := 0) hw ?_
  refine lv_if_eq (tgt := 32) hx₀ hb dX11_write_15 (by decide) (fun _ => ?_) (fun c9 => absurd (by decide +kernel) c9)
  refine lv_bipush (v := (-2)) hx₀ hb dX11_write_32 (by decide +kernel) ?_
  exact W.iret (v := (-2)) hx₀ hb hr (fun t₀ ht hW => ⟨⟨(-2), (), rfl, (lf_x_write_5 s c_2 c_4 c_6 c_8), trivial⟩, hS.F ht⟩) hS.2.2 dX11_write_34
theorem lf_x_count_1 (w : Int32) (c_1 : ¬ w = 0) (c_2 : ¬ w = 1) (c_3 : ¬ w = 2) (c_4 : ¬ w = 3) (c_5 : ¬ w = 4) (c_6 : ¬ w = 5) (c_7 : ¬ w = 6) (c_8 : ¬ w = 7) (c_9 : ¬ w = 8) : ((-2) : Int32) = if 0 ≤ w ∧ w ≤ 8 then 0 else -2 := by
  repeat first | rfl | rw [if_pos (by (first | omega | (simp only [Int64.le_iff_toInt_le, Int64.lt_iff_toInt_lt, Int32.le_iff_toInt_le, Int32.lt_iff_toInt_lt, ← Int32.toInt_inj, ← Int64.toInt_inj, Int32.toInt_toInt64, (show (-2 : Int32).toInt = -2 from by decide), (show (-2 : Int64).toInt = -2 from by decide), (show (0 : Int32).toInt = 0 from by decide), (show (0 : Int64).toInt = 0 from by decide), (show (1 : Int32).toInt = 1 from by decide), (show (1 : Int64).toInt = 1 from by decide), (show (2 : Int32).toInt = 2 from by decide), (show (2 : Int64).toInt = 2 from by decide), (show (3 : Int32).toInt = 3 from by decide), (show (3 : Int64).toInt = 3 from by decide), (show (4 : Int32).toInt = 4 from by decide), (show (4 : Int64).toInt = 4 from by decide), (show (5 : Int32).toInt = 5 from by decide), (show (5 : Int64).toInt = 5 from by decide), (show (6 : Int32).toInt = 6 from by decide), (show (6 : Int64).toInt = 6 from by decide), (show (7 : Int32).toInt = 7 from by decide), (show (7 : Int64).toInt = 7 from by decide), (show (8 : Int32).toInt = 8 from by decide), (show (8 : Int64).toInt = 8 from by decide)] at *; omega)))] | rw [if_neg (by (first | omega | (simp only [Int64.le_iff_toInt_le, Int64.lt_iff_toInt_lt, Int32.le_iff_toInt_le, Int32.lt_iff_toInt_lt, ← Int32.toInt_inj, ← Int64.toInt_inj, Int32.toInt_toInt64, (show (-2 : Int32).toInt = -2 from by decide), (show (-2 : Int64).toInt = -2 from by decide), (show (0 : Int32).toInt = 0 from by decide), (show (0 : Int64).toInt = 0 from by decide), (show (1 : Int32).toInt = 1 from by decide), (show (1 : Int64).toInt = 1 from by decide), (show (2 : Int32).toInt = 2 from by decide), (show (2 : Int64).toInt = 2 from by decide), (show (3 : Int32).toInt = 3 from by decide), (show (3 : Int64).toInt = 3 from by decide), (show (4 : Int32).toInt = 4 from by decide), (show (4 : Int64).toInt = 4 from by decide), (show (5 : Int32).toInt = 5 from by decide), (show (5 : Int64).toInt = 5 from by decide), (show (6 : Int32).toInt = 6 from by decide), (show (6 : Int64).toInt = 6 from by decide), (show (7 : Int32).toInt = 7 from by decide), (show (7 : Int64).toInt = 7 from by decide), (show (8 : Int32).toInt = 8 from by decide), (show (8 : Int64).toInt = 8 from by decide)] at *; omega)))]
set_option maxHeartbeats 4000000 in
set_option maxRecDepth 100000 in
theorem x_count (l : Launch) (dC : Nat → ClassId) (dI : Nat → Nat → Nat) (cI cJ cQ : ClassId) (sz : Nat) (hx : Nat) (w : Int32) (aLa : Nat) (aPa : Nat) (aGe : Nat) (aFl : Nat) (aTr : Nat) (aBe : Nat) (aLu : Nat) (aLo : Nat) (vSf : Nat) (vSm : Nat) (vCo : Nat) (vSh : Nat) (vLa : Nat) (vPa : Nat) (vGe : Nat) (vFl : Nat) : Met l yX11_count (kW yX11_count cX11_count 2 (some .int)) { frames := 0, cells := 0, slots := 0, locals := 0 } (kPre dC dI cI cJ cQ sz [.ref hx, .int w] [(hx, .inr (10, [.ref aLa, .ref aPa, .ref aGe, .ref aFl, .ref aTr, .ref aBe, .ref aLu, .ref aLo, .ref vSf, .ref vSm, .ref vCo, .ref vSh, .int 0, .int 0, .int 0])), (aLa, .inr (4, [.ref vLa, .int 0, .int (-1), .int 0])), (aPa, .inr (7, [.ref vPa, .int 0, .int (-1), .int 0])), (aGe, .inr (2, [.ref vGe, .int 0, .int (-1), .int 0])), (aFl, .inr (1, [.ref vFl, .int 0]))]) (va_Qi (fun (r : Int32) (_ : Unit) => r = if 0 ≤ w ∧ w ≤ 8 then 0 else -2) (fun _ t₀ => kB dC dI cI cJ cQ (va_A [(hx, .inr (10, [.ref aLa, .ref aPa, .ref aGe, .ref aFl, .ref aTr, .ref aBe, .ref aLu, .ref aLo, .ref vSf, .ref vSm, .ref vCo, .ref vSh, .int 0, .int 0, .int 0])), (aLa, .inr (4, [.ref vLa, .int 0, .int (-1), .int 0])), (aPa, .inr (7, [.ref vPa, .int 0, .int (-1), .int 0])), (aGe, .inr (2, [.ref vGe, .int 0, .int (-1), .int 0])), (aFl, .inr (1, [.ref vFl, .int 0]))] sz) [(hx, .inr (10, [.ref aLa, .ref aPa, .ref aGe, .ref aFl, .ref aTr, .ref aBe, .ref aLu, .ref aLo, .ref vSf, .ref vSm, .ref vCo, .ref vSh, .int 0, .int 0, .int 0])), (aLa, .inr (4, [.ref vLa, .int 0, .int (-1), .int 0])), (aPa, .inr (7, [.ref vPa, .int 0, .int (-1), .int 0])), (aGe, .inr (2, [.ref vGe, .int 0, .int (-1), .int 0])), (aFl, .inr (1, [.ref vFl, .int 0]))] t₀) (va_A [(hx, .inr (10, [.ref aLa, .ref aPa, .ref aGe, .ref aFl, .ref aTr, .ref aBe, .ref aLu, .ref aLo, .ref vSf, .ref vSm, .ref vCo, .ref vSh, .int 0, .int 0, .int 0])), (aLa, .inr (4, [.ref vLa, .int 0, .int (-1), .int 0])), (aPa, .inr (7, [.ref vPa, .int 0, .int (-1), .int 0])), (aGe, .inr (2, [.ref vGe, .int 0, .int (-1), .int 0])), (aFl, .inr (1, [.ref vFl, .int 0]))] sz)) 0 0 (va_A [(hx, .inr (10, [.ref aLa, .ref aPa, .ref aGe, .ref aFl, .ref aTr, .ref aBe, .ref aLu, .ref aLo, .ref vSf, .ref vSm, .ref vCo, .ref vSh, .int 0, .int 0, .int 0])), (aLa, .inr (4, [.ref vLa, .int 0, .int (-1), .int 0])), (aPa, .inr (7, [.ref vPa, .int 0, .int (-1), .int 0])), (aGe, .inr (2, [.ref vGe, .int 0, .int (-1), .int 0])), (aFl, .inr (1, [.ref vFl, .int 0]))] sz) := by
  refine Met.ofW (cc := cX11_count) (maxL := 2) (ret := (some .int)) (by decide) rfl ?_
  intro p₀ e₀ s₀ m₀ args below meth c₀ s₁ B hml hv₀
  obtain ⟨rfl, hsz, hP, hK, hD0, hN⟩ := hv₀
  have hx₀ := B.exec
  have hb := B.bytes
  have hr := B.returns
  have hts := atoms_spec (ws := (kW yX11_count cX11_count 2 (some .int))) B.pre
  have hts := fun w h => hts w (List.mem_cons_of_mem _ h)
  have hown : s₀.vm.findClass RX11 = some m₀.cls := findClass_of_methodNamed B.named
  have hlocks := B.notSynchronized
  subst hsz
  have hD := hD0.self (sz := s₀.heap.size)
  generalize hAe : va_A [(hx, .inr (10, [.ref aLa, .ref aPa, .ref aGe, .ref aFl, .ref aTr, .ref aBe, .ref aLu, .ref aLo, .ref vSf, .ref vSm, .ref vCo, .ref vSh, .int 0, .int 0, .int 0])), (aLa, .inr (4, [.ref vLa, .int 0, .int (-1), .int 0])), (aPa, .inr (7, [.ref vPa, .int 0, .int (-1), .int 0])), (aGe, .inr (2, [.ref vGe, .int 0, .int (-1), .int 0])), (aFl, .inr (1, [.ref vFl, .int 0]))] s₀.heap.size = A at hD ⊢
  have hA : ∀ q : Nat, s₀.heap.size ≤ q → A q := fun q h => by rw [← hAe]; exact Or.inr h
  have hS : va_S A s₀.heap s₀.heap [] := va_S.rf
  have hP : va_P (dC, dI) vwCl [(hx, .inr (10, [.ref aLa, .ref aPa, .ref aGe, .ref aFl, .ref aTr, .ref aBe, .ref aLu, .ref aLo, .ref vSf, .ref vSm, .ref vCo, .ref vSh, .int 0, .int 0, .int 0])), (aLa, .inr (4, [.ref vLa, .int 0, .int (-1), .int 0])), (aPa, .inr (7, [.ref vPa, .int 0, .int (-1), .int 0])), (aGe, .inr (2, [.ref vGe, .int 0, .int (-1), .int 0])), (aFl, .inr (1, [.ref vFl, .int 0]))] s₀.heap := hP
  have hl := lv_entry ([.ref hx, .int w]) (n := 2) (Nat.le_of_ble_eq_true rfl)
  rw [lg_entry_eq]
  generalize (lg_sl ([.ref hx, .int w]) ++ List.replicate (2 - (lg_sl ([.ref hx, .int w])).length) Slot.unset).toArray = ls at hl ⊢
  have hl : lv_has ls 2 [(0, .ref hx), (1, .int w)] := hl
  obtain ⟨H, hH⟩ : ∃ z : Heap, z = s₀.heap := ⟨_, rfl⟩
  rw [← hH] at hP
  have hS : va_S A s₀.heap H [] := by rw [hH]; exact hS
  refine k_heap hH ?_
  have hD : va_D A [(hx, .inr (10, [.ref aLa, .ref aPa, .ref aGe, .ref aFl, .ref aTr, .ref aBe, .ref aLu, .ref aLo, .ref vSf, .ref vSm, .ref vCo, .ref vSh, .int 0, .int 0, .int 0])), (aLa, .inr (4, [.ref vLa, .int 0, .int (-1), .int 0])), (aPa, .inr (7, [.ref vPa, .int 0, .int (-1), .int 0])), (aGe, .inr (2, [.ref vGe, .int 0, .int (-1), .int 0])), (aFl, .inr (1, [.ref vFl, .int 0]))] := hD
  obtain ⟨locs, hlo⟩ : ∃ z : List Loc, z = [] := ⟨_, rfl⟩
  rw [← hlo] at hS ⊢
  clear hlo hH hAe hD0
  refine lv_iload_n hx₀ hb dX11_count_0 rfl (lv_at hl 1 rfl) ?_
  by_cases c_1 : w = 0
  · subst c_1
    refine lv_tableIn (off := 51) (tgt := 52) hx₀ hb dX11_count_1 (by decide +kernel) (by decide +kernel) (by decide +kernel) (by decide) ?_
    refine lv_aload_n hx₀ hb dX11_count_52 rfl (lv_at hl 0 rfl) ?_
    refine va_get (D := (dC, dI)) (ci := 10) (v := .ref aLa) (C := RX11) (T := TX11) (N := 15) hx₀ hb hts inlX11 hown hK hP 0 rfl rfl 0 (by decide) (hts (.fieldLink RX11 10 "BittenStick" "land" "LBittenStick$Land;") wd_15) (fun _ h9 => h9) rfl dX11_count_53 ?_
    refine va_get (D := (dC, dI)) (ci := 4) (v := .int 0) (C := RX4) (T := TX4) (N := 4) hx₀ hb hts inlX4 hown hK hP 1 rfl rfl 3 (by decide) (hts (.fieldLink RX11 108 "BittenStick$Land" "number" "I") wd_285) (fun x9 h9 => u_same (hts (.sameField "BittenStick$Land" "BittenStick$Text" "number" "I") wd_286) x9 h9) rfl dX11_count_56 ?_
    have hP9 := hP.sub (ws' := [(hx, .inr (10, [.ref aLa, .ref aPa, .ref aGe, .ref aFl, .ref aTr, .ref aBe, .ref aLu, .ref aLo, .ref vSf, .ref vSm, .ref vCo, .ref vSh, .int 0, .int 0, .int 0])), (aLa, .inr (4, [.ref vLa, .int 0, .int (-1), .int 0])), (aPa, .inr (7, [.ref vPa, .int 0, .int (-1), .int 0])), (aGe, .inr (2, [.ref vGe, .int 0, .int (-1), .int 0])), (aFl, .inr (1, [.ref vFl, .int 0]))]) [0, 1, 2, 3, 4] rfl
    have hD9 := hD.sub (ws' := [(hx, .inr (10, [.ref aLa, .ref aPa, .ref aGe, .ref aFl, .ref aTr, .ref aBe, .ref aLu, .ref aLo, .ref vSf, .ref vSm, .ref vCo, .ref vSh, .int 0, .int 0, .int 0])), (aLa, .inr (4, [.ref vLa, .int 0, .int (-1), .int 0])), (aPa, .inr (7, [.ref vPa, .int 0, .int (-1), .int 0])), (aGe, .inr (2, [.ref vGe, .int 0, .int (-1), .int 0])), (aFl, .inr (1, [.ref vFl, .int 0]))]) [0, 1, 2, 3, 4] (by decide) rfl
    exact W.iret (v := 0) hx₀ hb hr (fun t₀ ht hW => ⟨⟨0, (), rfl, (by decide +kernel), by rw [ht]; exact hP9, va_K.moved hW.alike hK, hD9⟩, hS.F ht⟩) hS.2.2 dX11_count_59
  by_cases c_2 : w = 1
  · subst c_2
    refine lv_tableIn (off := 59) (tgt := 60) hx₀ hb dX11_count_1 (by decide +kernel) (by decide +kernel) (by decide +kernel) (by decide) ?_
    refine lv_aload_n hx₀ hb dX11_count_60 rfl (lv_at hl 0 rfl) ?_
    refine va_get (D := (dC, dI)) (ci := 10) (v := .ref aPa) (C := RX11) (T := TX11) (N := 15) hx₀ hb hts inlX11 hown hK hP 0 rfl rfl 1 (by decide) (hts (.fieldLink RX11 19 "BittenStick" "passengers" "LBittenStick$Passengers;") wd_19) (fun _ h9 => h9) rfl dX11_count_61 ?_
    refine va_get (D := (dC, dI)) (ci := 7) (v := .int 0) (C := RX7) (T := TX7) (N := 4) hx₀ hb hts inlX7 hown hK hP 2 rfl rfl 3 (by decide) (hts (.fieldLink RX11 223 "BittenStick$Passengers" "number" "I") wd_834) (fun x9 h9 => u_same (hts (.sameField "BittenStick$Passengers" "BittenStick$Text" "number" "I") wd_835) x9 h9) rfl dX11_count_64 ?_
    have hP9 := hP.sub (ws' := [(hx, .inr (10, [.ref aLa, .ref aPa, .ref aGe, .ref aFl, .ref aTr, .ref aBe, .ref aLu, .ref aLo, .ref vSf, .ref vSm, .ref vCo, .ref vSh, .int 0, .int 0, .int 0])), (aLa, .inr (4, [.ref vLa, .int 0, .int (-1), .int 0])), (aPa, .inr (7, [.ref vPa, .int 0, .int (-1), .int 0])), (aGe, .inr (2, [.ref vGe, .int 0, .int (-1), .int 0])), (aFl, .inr (1, [.ref vFl, .int 0]))]) [0, 1, 2, 3, 4] rfl
    have hD9 := hD.sub (ws' := [(hx, .inr (10, [.ref aLa, .ref aPa, .ref aGe, .ref aFl, .ref aTr, .ref aBe, .ref aLu, .ref aLo, .ref vSf, .ref vSm, .ref vCo, .ref vSh, .int 0, .int 0, .int 0])), (aLa, .inr (4, [.ref vLa, .int 0, .int (-1), .int 0])), (aPa, .inr (7, [.ref vPa, .int 0, .int (-1), .int 0])), (aGe, .inr (2, [.ref vGe, .int 0, .int (-1), .int 0])), (aFl, .inr (1, [.ref vFl, .int 0]))]) [0, 1, 2, 3, 4] (by decide) rfl
    exact W.iret (v := 0) hx₀ hb hr (fun t₀ ht hW => ⟨⟨0, (), rfl, (by decide +kernel), by rw [ht]; exact hP9, va_K.moved hW.alike hK, hD9⟩, hS.F ht⟩) hS.2.2 dX11_count_67
  by_cases c_3 : w = 2
  · subst c_3
    refine lv_tableIn (off := 67) (tgt := 68) hx₀ hb dX11_count_1 (by decide +kernel) (by decide +kernel) (by decide +kernel) (by decide) ?_
    refine lv_aload_n hx₀ hb dX11_count_68 rfl (lv_at hl 0 rfl) ?_
    refine va_get (D := (dC, dI)) (ci := 10) (v := .ref aGe) (C := RX11) (T := TX11) (N := 15) hx₀ hb hts inlX11 hown hK hP 0 rfl rfl 2 (by decide) (hts (.fieldLink RX11 26 "BittenStick" "geese" "LBittenStick$Geese;") wd_23) (fun _ h9 => h9) rfl dX11_count_69 ?_
    refine va_get (D := (dC, dI)) (ci := 2) (v := .int 0) (C := RX2) (T := TX2) (N := 4) hx₀ hb hts inlX2 hown hK hP 3 rfl rfl 3 (by decide) (hts (.fieldLink RX11 185 "BittenStick$Geese" "number" "I") wd_676) (fun x9 h9 => u_same (hts (.sameField "BittenStick$Geese" "BittenStick$Text" "number" "I") wd_677) x9 h9) rfl dX11_count_72 ?_
    have hP9 := hP.sub (ws' := [(hx, .inr (10, [.ref aLa, .ref aPa, .ref aGe, .ref aFl, .ref aTr, .ref aBe, .ref aLu, .ref aLo, .ref vSf, .ref vSm, .ref vCo, .ref vSh, .int 0, .int 0, .int 0])), (aLa, .inr (4, [.ref vLa, .int 0, .int (-1), .int 0])), (aPa, .inr (7, [.ref vPa, .int 0, .int (-1), .int 0])), (aGe, .inr (2, [.ref vGe, .int 0, .int (-1), .int 0])), (aFl, .inr (1, [.ref vFl, .int 0]))]) [0, 1, 2, 3, 4] rfl
    have hD9 := hD.sub (ws' := [(hx, .inr (10, [.ref aLa, .ref aPa, .ref aGe, .ref aFl, .ref aTr, .ref aBe, .ref aLu, .ref aLo, .ref vSf, .ref vSm, .ref vCo, .ref vSh, .int 0, .int 0, .int 0])), (aLa, .inr (4, [.ref vLa, .int 0, .int (-1), .int 0])), (aPa, .inr (7, [.ref vPa, .int 0, .int (-1), .int 0])), (aGe, .inr (2, [.ref vGe, .int 0, .int (-1), .int 0])), (aFl, .inr (1, [.ref vFl, .int 0]))]) [0, 1, 2, 3, 4] (by decide) rfl
    exact W.iret (v := 0) hx₀ hb hr (fun t₀ ht hW => ⟨⟨0, (), rfl, (by decide +kernel), by rw [ht]; exact hP9, va_K.moved hW.alike hK, hD9⟩, hS.F ht⟩) hS.2.2 dX11_count_75
  by_cases c_4 : w = 3
  · subst c_4
    refine lv_tableIn (off := 75) (tgt := 76) hx₀ hb dX11_count_1 (by decide +kernel) (by decide +kernel) (by decide +kernel) (by decide) ?_
    refine lv_aload_n hx₀ hb dX11_count_76 rfl (lv_at hl 0 rfl) ?_
    refine va_get (D := (dC, dI)) (ci := 10) (v := .ref aLa) (C := RX11) (T := TX11) (N := 15) hx₀ hb hts inlX11 hown hK hP 0 rfl rfl 0 (by decide) (hts (.fieldLink RX11 10 "BittenStick" "land" "LBittenStick$Land;") wd_15) (fun _ h9 => h9) rfl dX11_count_77 ?_
    refine va_get (D := (dC, dI)) (ci := 4) (v := .int 0) (C := RX4) (T := TX4) (N := 4) hx₀ hb hts inlX4 hown hK hP 1 rfl rfl 1 (by decide) (hts (.fieldLink RX11 266 "BittenStick$Land" "length" "I") wd_951) (fun x9 h9 => u_same (hts (.sameField "BittenStick$Land" "BittenStick$Text" "length" "I") wd_952) x9 h9) rfl dX11_count_80 ?_
    have hP9 := hP.sub (ws' := [(hx, .inr (10, [.ref aLa, .ref aPa, .ref aGe, .ref aFl, .ref aTr, .ref aBe, .ref aLu, .ref aLo, .ref vSf, .ref vSm, .ref vCo, .ref vSh, .int 0, .int 0, .int 0])), (aLa, .inr (4, [.ref vLa, .int 0, .int (-1), .int 0])), (aPa, .inr (7, [.ref vPa, .int 0, .int (-1), .int 0])), (aGe, .inr (2, [.ref vGe, .int 0, .int (-1), .int 0])), (aFl, .inr (1, [.ref vFl, .int 0]))]) [0, 1, 2, 3, 4] rfl
    have hD9 := hD.sub (ws' := [(hx, .inr (10, [.ref aLa, .ref aPa, .ref aGe, .ref aFl, .ref aTr, .ref aBe, .ref aLu, .ref aLo, .ref vSf, .ref vSm, .ref vCo, .ref vSh, .int 0, .int 0, .int 0])), (aLa, .inr (4, [.ref vLa, .int 0, .int (-1), .int 0])), (aPa, .inr (7, [.ref vPa, .int 0, .int (-1), .int 0])), (aGe, .inr (2, [.ref vGe, .int 0, .int (-1), .int 0])), (aFl, .inr (1, [.ref vFl, .int 0]))]) [0, 1, 2, 3, 4] (by decide) rfl
    exact W.iret (v := 0) hx₀ hb hr (fun t₀ ht hW => ⟨⟨0, (), rfl, (by decide +kernel), by rw [ht]; exact hP9, va_K.moved hW.alike hK, hD9⟩, hS.F ht⟩) hS.2.2 dX11_count_83
  by_cases c_5 : w = 4
  · subst c_5
    refine lv_tableIn (off := 83) (tgt := 84) hx₀ hb dX11_count_1 (by decide +kernel) (by decide +kernel) (by decide +kernel) (by decide) ?_
    refine lv_aload_n hx₀ hb dX11_count_84 rfl (lv_at hl 0 rfl) ?_
    refine va_get (D := (dC, dI)) (ci := 10) (v := .ref aPa) (C := RX11) (T := TX11) (N := 15) hx₀ hb hts inlX11 hown hK hP 0 rfl rfl 1 (by decide) (hts (.fieldLink RX11 19 "BittenStick" "passengers" "LBittenStick$Passengers;") wd_19) (fun _ h9 => h9) rfl dX11_count_85 ?_
    refine va_get (D := (dC, dI)) (ci := 7) (v := .int 0) (C := RX7) (T := TX7) (N := 4) hx₀ hb hts inlX7 hown hK hP 2 rfl rfl 1 (by decide) (hts (.fieldLink RX11 267 "BittenStick$Passengers" "length" "I") wd_953) (fun x9 h9 => u_same (hts (.sameField "BittenStick$Passengers" "BittenStick$Text" "length" "I") wd_954) x9 h9) rfl dX11_count_88 ?_
    have hP9 := hP.sub (ws' := [(hx, .inr (10, [.ref aLa, .ref aPa, .ref aGe, .ref aFl, .ref aTr, .ref aBe, .ref aLu, .ref aLo, .ref vSf, .ref vSm, .ref vCo, .ref vSh, .int 0, .int 0, .int 0])), (aLa, .inr (4, [.ref vLa, .int 0, .int (-1), .int 0])), (aPa, .inr (7, [.ref vPa, .int 0, .int (-1), .int 0])), (aGe, .inr (2, [.ref vGe, .int 0, .int (-1), .int 0])), (aFl, .inr (1, [.ref vFl, .int 0]))]) [0, 1, 2, 3, 4] rfl
    have hD9 := hD.sub (ws' := [(hx, .inr (10, [.ref aLa, .ref aPa, .ref aGe, .ref aFl, .ref aTr, .ref aBe, .ref aLu, .ref aLo, .ref vSf, .ref vSm, .ref vCo, .ref vSh, .int 0, .int 0, .int 0])), (aLa, .inr (4, [.ref vLa, .int 0, .int (-1), .int 0])), (aPa, .inr (7, [.ref vPa, .int 0, .int (-1), .int 0])), (aGe, .inr (2, [.ref vGe, .int 0, .int (-1), .int 0])), (aFl, .inr (1, [.ref vFl, .int 0]))]) [0, 1, 2, 3, 4] (by decide) rfl
    exact W.iret (v := 0) hx₀ hb hr (fun t₀ ht hW => ⟨⟨0, (), rfl, (by decide +kernel), by rw [ht]; exact hP9, va_K.moved hW.alike hK, hD9⟩, hS.F ht⟩) hS.2.2 dX11_count_91
  by_cases c_6 : w = 5
  · subst c_6
    refine lv_tableIn (off := 91) (tgt := 92) hx₀ hb dX11_count_1 (by decide +kernel) (by decide +kernel) (by decide +kernel) (by decide) ?_
    refine lv_aload_n hx₀ hb dX11_count_92 rfl (lv_at hl 0 rfl) ?_
    refine va_get (D := (dC, dI)) (ci := 10) (v := .ref aGe) (C := RX11) (T := TX11) (N := 15) hx₀ hb hts inlX11 hown hK hP 0 rfl rfl 2 (by decide) (hts (.fieldLink RX11 26 "BittenStick" "geese" "LBittenStick$Geese;") wd_23) (fun _ h9 => h9) rfl dX11_count_93 ?_
    refine va_get (D := (dC, dI)) (ci := 2) (v := .int 0) (C := RX2) (T := TX2) (N := 4) hx₀ hb hts inlX2 hown hK hP 3 rfl rfl 1 (by decide) (hts (.fieldLink RX11 268 "BittenStick$Geese" "length" "I") wd_955) (fun x9 h9 => u_same (hts (.sameField "BittenStick$Geese" "BittenStick$Text" "length" "I") wd_956) x9 h9) rfl dX11_count_96 ?_
    have hP9 := hP.sub (ws' := [(hx, .inr (10, [.ref aLa, .ref aPa, .ref aGe, .ref aFl, .ref aTr, .ref aBe, .ref aLu, .ref aLo, .ref vSf, .ref vSm, .ref vCo, .ref vSh, .int 0, .int 0, .int 0])), (aLa, .inr (4, [.ref vLa, .int 0, .int (-1), .int 0])), (aPa, .inr (7, [.ref vPa, .int 0, .int (-1), .int 0])), (aGe, .inr (2, [.ref vGe, .int 0, .int (-1), .int 0])), (aFl, .inr (1, [.ref vFl, .int 0]))]) [0, 1, 2, 3, 4] rfl
    have hD9 := hD.sub (ws' := [(hx, .inr (10, [.ref aLa, .ref aPa, .ref aGe, .ref aFl, .ref aTr, .ref aBe, .ref aLu, .ref aLo, .ref vSf, .ref vSm, .ref vCo, .ref vSh, .int 0, .int 0, .int 0])), (aLa, .inr (4, [.ref vLa, .int 0, .int (-1), .int 0])), (aPa, .inr (7, [.ref vPa, .int 0, .int (-1), .int 0])), (aGe, .inr (2, [.ref vGe, .int 0, .int (-1), .int 0])), (aFl, .inr (1, [.ref vFl, .int 0]))]) [0, 1, 2, 3, 4] (by decide) rfl
    exact W.iret (v := 0) hx₀ hb hr (fun t₀ ht hW => ⟨⟨0, (), rfl, (by decide +kernel), by rw [ht]; exact hP9, va_K.moved hW.alike hK, hD9⟩, hS.F ht⟩) hS.2.2 dX11_count_99
  by_cases c_7 : w = 6
  · subst c_7
    refine lv_tableIn (off := 99) (tgt := 100) hx₀ hb dX11_count_1 (by decide +kernel) (by decide +kernel) (by decide +kernel) (by decide) ?_
    refine lv_aload_n hx₀ hb dX11_count_100 rfl (lv_at hl 0 rfl) ?_
    refine va_get (D := (dC, dI)) (ci := 10) (v := .ref aFl) (C := RX11) (T := TX11) (N := 15) hx₀ hb hts inlX11 hown hK hP 0 rfl rfl 3 (by decide) (hts (.fieldLink RX11 33 "BittenStick" "flights" "LBittenStick$Flights;") wd_27) (fun _ h9 => h9) rfl dX11_count_101 ?_
    refine va_get (D := (dC, dI)) (ci := 1) (v := .int 0) (C := RX1) (T := TX1) (N := 2) hx₀ hb hts inlX1 hown hK hP 4 rfl rfl 1 (by decide) (hts (.fieldLink RX11 128 "BittenStick$Flights" "number" "I") wd_369) (fun _ h9 => h9) rfl dX11_count_104 ?_
    have hP9 := hP.sub (ws' := [(hx, .inr (10, [.ref aLa, .ref aPa, .ref aGe, .ref aFl, .ref aTr, .ref aBe, .ref aLu, .ref aLo, .ref vSf, .ref vSm, .ref vCo, .ref vSh, .int 0, .int 0, .int 0])), (aLa, .inr (4, [.ref vLa, .int 0, .int (-1), .int 0])), (aPa, .inr (7, [.ref vPa, .int 0, .int (-1), .int 0])), (aGe, .inr (2, [.ref vGe, .int 0, .int (-1), .int 0])), (aFl, .inr (1, [.ref vFl, .int 0]))]) [0, 1, 2, 3, 4] rfl
    have hD9 := hD.sub (ws' := [(hx, .inr (10, [.ref aLa, .ref aPa, .ref aGe, .ref aFl, .ref aTr, .ref aBe, .ref aLu, .ref aLo, .ref vSf, .ref vSm, .ref vCo, .ref vSh, .int 0, .int 0, .int 0])), (aLa, .inr (4, [.ref vLa, .int 0, .int (-1), .int 0])), (aPa, .inr (7, [.ref vPa, .int 0, .int (-1), .int 0])), (aGe, .inr (2, [.ref vGe, .int 0, .int (-1), .int 0])), (aFl, .inr (1, [.ref vFl, .int 0]))]) [0, 1, 2, 3, 4] (by decide) rfl
    exact W.iret (v := 0) hx₀ hb hr (fun t₀ ht hW => ⟨⟨0, (), rfl, (by decide +kernel), by rw [ht]; exact hP9, va_K.moved hW.alike hK, hD9⟩, hS.F ht⟩) hS.2.2 dX11_count_107
  by_cases c_8 : w = 7
  · subst c_8
    refine lv_tableIn (off := 107) (tgt := 108) hx₀ hb dX11_count_1 (by decide +kernel) (by decide +kernel) (by decide +kernel) (by decide) ?_
    refine lv_aload_n hx₀ hb dX11_count_108 rfl (lv_at hl 0 rfl) ?_
    refine va_get (D := (dC, dI)) (ci := 10) (v := .int 0) (C := RX11) (T := TX11) (N := 15) hx₀ hb hts inlX11 hown hK hP 0 rfl rfl 12 (by decide) (hts (.fieldLink RX11 193 "BittenStick" "seenNumber" "I") wd_690) (fun _ h9 => h9) rfl dX11_count_109 ?_
    have hP9 := hP.sub (ws' := [(hx, .inr (10, [.ref aLa, .ref aPa, .ref aGe, .ref aFl, .ref aTr, .ref aBe, .ref aLu, .ref aLo, .ref vSf, .ref vSm, .ref vCo, .ref vSh, .int 0, .int 0, .int 0])), (aLa, .inr (4, [.ref vLa, .int 0, .int (-1), .int 0])), (aPa, .inr (7, [.ref vPa, .int 0, .int (-1), .int 0])), (aGe, .inr (2, [.ref vGe, .int 0, .int (-1), .int 0])), (aFl, .inr (1, [.ref vFl, .int 0]))]) [0, 1, 2, 3, 4] rfl
    have hD9 := hD.sub (ws' := [(hx, .inr (10, [.ref aLa, .ref aPa, .ref aGe, .ref aFl, .ref aTr, .ref aBe, .ref aLu, .ref aLo, .ref vSf, .ref vSm, .ref vCo, .ref vSh, .int 0, .int 0, .int 0])), (aLa, .inr (4, [.ref vLa, .int 0, .int (-1), .int 0])), (aPa, .inr (7, [.ref vPa, .int 0, .int (-1), .int 0])), (aGe, .inr (2, [.ref vGe, .int 0, .int (-1), .int 0])), (aFl, .inr (1, [.ref vFl, .int 0]))]) [0, 1, 2, 3, 4] (by decide) rfl
    exact W.iret (v := 0) hx₀ hb hr (fun t₀ ht hW => ⟨⟨0, (), rfl, (by decide +kernel), by rw [ht]; exact hP9, va_K.moved hW.alike hK, hD9⟩, hS.F ht⟩) hS.2.2 dX11_count_112
  by_cases c_9 : w = 8
  · subst c_9
    refine lv_tableIn (off := 112) (tgt := 113) hx₀ hb dX11_count_1 (by decide +kernel) (by decide +kernel) (by decide +kernel) (by decide) ?_
    refine lv_aload_n hx₀ hb dX11_count_113 rfl (lv_at hl 0 rfl) ?_
    refine va_get (D := (dC, dI)) (ci := 10) (v := .int 0) (C := RX11) (T := TX11) (N := 15) hx₀ hb hts inlX11 hown hK hP 0 rfl rfl 14 (by decide) (hts (.fieldLink RX11 269 "BittenStick" "finding" "I") wd_388) (fun _ h9 => h9) rfl dX11_count_114 ?_
    have hP9 := hP.sub (ws' := [(hx, .inr (10, [.ref aLa, .ref aPa, .ref aGe, .ref aFl, .ref aTr, .ref aBe, .ref aLu, .ref aLo, .ref vSf, .ref vSm, .ref vCo, .ref vSh, .int 0, .int 0, .int 0])), (aLa, .inr (4, [.ref vLa, .int 0, .int (-1), .int 0])), (aPa, .inr (7, [.ref vPa, .int 0, .int (-1), .int 0])), (aGe, .inr (2, [.ref vGe, .int 0, .int (-1), .int 0])), (aFl, .inr (1, [.ref vFl, .int 0]))]) [0, 1, 2, 3, 4] rfl
    have hD9 := hD.sub (ws' := [(hx, .inr (10, [.ref aLa, .ref aPa, .ref aGe, .ref aFl, .ref aTr, .ref aBe, .ref aLu, .ref aLo, .ref vSf, .ref vSm, .ref vCo, .ref vSh, .int 0, .int 0, .int 0])), (aLa, .inr (4, [.ref vLa, .int 0, .int (-1), .int 0])), (aPa, .inr (7, [.ref vPa, .int 0, .int (-1), .int 0])), (aGe, .inr (2, [.ref vGe, .int 0, .int (-1), .int 0])), (aFl, .inr (1, [.ref vFl, .int 0]))]) [0, 1, 2, 3, 4] (by decide) rfl
    exact W.iret (v := 0) hx₀ hb hr (fun t₀ ht hW => ⟨⟨0, (), rfl, (by decide +kernel), by rw [ht]; exact hP9, va_K.moved hW.alike hK, hD9⟩, hS.F ht⟩) hS.2.2 dX11_count_117
  refine lv_tableOut (tgt := 118) hx₀ hb dX11_count_1 (k_out9 c_1 c_2 c_3 c_4 c_5 c_6 c_7 c_8 c_9) (by decide) ?_
  refine lv_bipush (v := (-2)) hx₀ hb dX11_count_118 (by decide +kernel) ?_
  have hP9 := hP.sub (ws' := [(hx, .inr (10, [.ref aLa, .ref aPa, .ref aGe, .ref aFl, .ref aTr, .ref aBe, .ref aLu, .ref aLo, .ref vSf, .ref vSm, .ref vCo, .ref vSh, .int 0, .int 0, .int 0])), (aLa, .inr (4, [.ref vLa, .int 0, .int (-1), .int 0])), (aPa, .inr (7, [.ref vPa, .int 0, .int (-1), .int 0])), (aGe, .inr (2, [.ref vGe, .int 0, .int (-1), .int 0])), (aFl, .inr (1, [.ref vFl, .int 0]))]) [0, 1, 2, 3, 4] rfl
  have hD9 := hD.sub (ws' := [(hx, .inr (10, [.ref aLa, .ref aPa, .ref aGe, .ref aFl, .ref aTr, .ref aBe, .ref aLu, .ref aLo, .ref vSf, .ref vSm, .ref vCo, .ref vSh, .int 0, .int 0, .int 0])), (aLa, .inr (4, [.ref vLa, .int 0, .int (-1), .int 0])), (aPa, .inr (7, [.ref vPa, .int 0, .int (-1), .int 0])), (aGe, .inr (2, [.ref vGe, .int 0, .int (-1), .int 0])), (aFl, .inr (1, [.ref vFl, .int 0]))]) [0, 1, 2, 3, 4] (by decide) rfl
  exact W.iret (v := (-2)) hx₀ hb hr (fun t₀ ht hW => ⟨⟨(-2), (), rfl, (lf_x_count_1 w c_1 c_2 c_3 c_4 c_5 c_6 c_7 c_8 c_9), by rw [ht]; exact hP9, va_K.moved hW.alike hK, hD9⟩, hS.F ht⟩) hS.2.2 dX11_count_120
