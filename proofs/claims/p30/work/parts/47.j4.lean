theorem lf_j_flyGeese_1 (a0 : Int32) (h0 : -1 ≤ a0 ∧ a0.toInt < 2147483647) : 0 ≤ (0 : Int32) ∧ (0 : Int32).toInt ≤ a0.toInt + 1 := by
  first | rfl | assumption | decide | exact Or.inl rfl | (first | rfl | assumption | decide | omega | (have hr0 := Int32.toInt_lt a0; have hs0 := Int32.le_toInt a0; simp only [Int64.toInt_add, Int64.toInt_sub, Int32.toInt_add, Int32.toInt_sub, Int32.toInt_mul, Int64.le_iff_toInt_le, Int64.lt_iff_toInt_lt, Int32.le_iff_toInt_le, Int32.lt_iff_toInt_lt, ← Int32.toInt_inj, ← Int64.toInt_inj, Int32.toInt_toInt64, kc_m1, kc_0, kc_1, kc_2147483647, true_and, and_true, not_true_eq_false, not_false_eq_true] at * <;> ((first | omega | ((try simp (disch := omega) only [k_bm64] at *); (try simp (disch := omega) only [k_bm] at *); (try simp (disch := omega) only [k_bm] at *); omega) | (simp only [Int.bmod] at *; omega)))))
theorem lf_j_flyGeese_2 (a0 : Int32) (a1 : Int32) (a2 : Nat) (h0 : -1 ≤ a0 ∧ a0.toInt < 2147483647) (h1 : 0 ≤ a1 ∧ a1.toInt ≤ a0.toInt + 1) (h2 : (a0.toInt + 1 - a1.toInt).toNat = a2) (h3 : a0 < a1) : (a0 + 1) ≤ a1 := by
  first | rfl | assumption | decide | exact Or.inl rfl | (first | rfl | assumption | decide | omega | (have hr0 := Int32.toInt_lt a0; have hs0 := Int32.le_toInt a0; have hr1 := Int32.toInt_lt a1; have hs1 := Int32.le_toInt a1; simp only [Int64.toInt_add, Int64.toInt_sub, Int32.toInt_add, Int32.toInt_sub, Int32.toInt_mul, Int64.le_iff_toInt_le, Int64.lt_iff_toInt_lt, Int32.le_iff_toInt_le, Int32.lt_iff_toInt_lt, ← Int32.toInt_inj, ← Int64.toInt_inj, Int32.toInt_toInt64, kc_m1, kc_0, kc_1, kc_2147483647, true_and, and_true, not_true_eq_false, not_false_eq_true] at * <;> ((first | omega | ((try simp (disch := omega) only [k_bm64] at *); (try simp (disch := omega) only [k_bm] at *); (try simp (disch := omega) only [k_bm] at *); omega) | (simp only [Int.bmod] at *; omega)))))
theorem lf_j_flyGeese_3 (a0 : Int32) (a1 : Int32) (a2 : Nat) (h0 : -1 ≤ a0 ∧ a0.toInt < 2147483647) (h1 : 0 ≤ a1 ∧ a1.toInt ≤ a0.toInt + 1) (h2 : (a0.toInt + 1 - a1.toInt).toNat = a2) (h3 : a0 < a1) : a1 ≤ (a0 + 1) := by
  first | rfl | assumption | decide | exact Or.inl rfl | (first | rfl | assumption | decide | omega | (have hr0 := Int32.toInt_lt a0; have hs0 := Int32.le_toInt a0; have hr1 := Int32.toInt_lt a1; have hs1 := Int32.le_toInt a1; simp only [Int64.toInt_add, Int64.toInt_sub, Int32.toInt_add, Int32.toInt_sub, Int32.toInt_mul, Int64.le_iff_toInt_le, Int64.lt_iff_toInt_lt, Int32.le_iff_toInt_le, Int32.lt_iff_toInt_lt, ← Int32.toInt_inj, ← Int64.toInt_inj, Int32.toInt_toInt64, kc_m1, kc_0, kc_1, kc_2147483647, true_and, and_true, not_true_eq_false, not_false_eq_true] at * <;> ((first | omega | ((try simp (disch := omega) only [k_bm64] at *); (try simp (disch := omega) only [k_bm] at *); (try simp (disch := omega) only [k_bm] at *); omega) | (simp only [Int.bmod] at *; omega)))))
theorem lf_j_flyGeese_4 (a0 : Int32) (a1 : Int32) (a2 : Nat) (h0 : -1 ≤ a0 ∧ a0.toInt < 2147483647) (h1 : 0 ≤ a1 ∧ a1.toInt ≤ a0.toInt + 1) (h2 : (a0.toInt + 1 - a1.toInt).toNat = a2) (h3 : ¬ a0 < a1) : ¬ (a0 + 1) ≤ a1 := by
  first | rfl | assumption | decide | exact Or.inl rfl | (first | rfl | assumption | decide | omega | (have hr0 := Int32.toInt_lt a0; have hs0 := Int32.le_toInt a0; have hr1 := Int32.toInt_lt a1; have hs1 := Int32.le_toInt a1; simp only [Int64.toInt_add, Int64.toInt_sub, Int32.toInt_add, Int32.toInt_sub, Int32.toInt_mul, Int64.le_iff_toInt_le, Int64.lt_iff_toInt_lt, Int32.le_iff_toInt_le, Int32.lt_iff_toInt_lt, ← Int32.toInt_inj, ← Int64.toInt_inj, Int32.toInt_toInt64, kc_m1, kc_0, kc_1, kc_2147483647, true_and, and_true, not_true_eq_false, not_false_eq_true] at * <;> ((first | omega | ((try simp (disch := omega) only [k_bm64] at *); (try simp (disch := omega) only [k_bm] at *); (try simp (disch := omega) only [k_bm] at *); omega) | (simp only [Int.bmod] at *; omega)))))
theorem lf_j_flyGeese_5 (a0 : Int32) (a1 : Int32) (a2 : Nat) (h0 : -1 ≤ a0 ∧ a0.toInt < 2147483647) (h1 : 0 ≤ a1 ∧ a1.toInt ≤ a0.toInt + 1) (h2 : (a0.toInt + 1 - a1.toInt).toNat = a2) (h3 : ¬ a0 < a1) : 0 ≤ (a1 + 1) ∧ (a1 + 1).toInt ≤ a0.toInt + 1 := by
  first | rfl | assumption | decide | exact Or.inl rfl | (first | rfl | assumption | decide | omega | (have hr0 := Int32.toInt_lt a0; have hs0 := Int32.le_toInt a0; have hr1 := Int32.toInt_lt a1; have hs1 := Int32.le_toInt a1; simp only [Int64.toInt_add, Int64.toInt_sub, Int32.toInt_add, Int32.toInt_sub, Int32.toInt_mul, Int64.le_iff_toInt_le, Int64.lt_iff_toInt_lt, Int32.le_iff_toInt_le, Int32.lt_iff_toInt_lt, ← Int32.toInt_inj, ← Int64.toInt_inj, Int32.toInt_toInt64, kc_m1, kc_0, kc_1, kc_2147483647, true_and, and_true, not_true_eq_false, not_false_eq_true] at * <;> ((first | omega | ((try simp (disch := omega) only [k_bm64] at *); (try simp (disch := omega) only [k_bm] at *); (try simp (disch := omega) only [k_bm] at *); omega) | (simp only [Int.bmod] at *; omega)))))
theorem lf_j_flyGeese_6 (a0 : Int32) (a1 : Int32) (a2 : Nat) (h0 : -1 ≤ a0 ∧ a0.toInt < 2147483647) (h1 : 0 ≤ a1 ∧ a1.toInt ≤ a0.toInt + 1) (h2 : (a0.toInt + 1 - a1.toInt).toNat = a2) (h3 : ¬ a0 < a1) : (a0.toInt + 1 - (a1 + 1).toInt).toNat < a2 := by
  first | rfl | assumption | decide | exact Or.inl rfl | (first | rfl | assumption | decide | omega | (have hr0 := Int32.toInt_lt a0; have hs0 := Int32.le_toInt a0; have hr1 := Int32.toInt_lt a1; have hs1 := Int32.le_toInt a1; simp only [Int64.toInt_add, Int64.toInt_sub, Int32.toInt_add, Int32.toInt_sub, Int32.toInt_mul, Int64.le_iff_toInt_le, Int64.lt_iff_toInt_lt, Int32.le_iff_toInt_le, Int32.lt_iff_toInt_lt, ← Int32.toInt_inj, ← Int64.toInt_inj, Int32.toInt_toInt64, kc_m1, kc_0, kc_1, kc_2147483647, true_and, and_true, not_true_eq_false, not_false_eq_true] at * <;> ((first | omega | ((try simp (disch := omega) only [k_bm64] at *); (try simp (disch := omega) only [k_bm] at *); (try simp (disch := omega) only [k_bm] at *); omega) | (simp only [Int.bmod] at *; omega)))))
theorem lf_j_flyGeese_7 (a0 : Int32) (a1 : Int32) (a2 : Nat) (h0 : -1 ≤ a0 ∧ a0.toInt < 2147483647) (h1 : 0 ≤ a1 ∧ a1.toInt ≤ a0.toInt + 1) (h2 : (a0.toInt + 1 - a1.toInt).toNat = a2) (h3 : ¬ a0 < a1) (h4 : a1 < a0) : ¬ (a0 + 1) ≤ a1 := by
  first | rfl | assumption | decide | exact Or.inl rfl | (first | rfl | assumption | decide | omega | (have hr0 := Int32.toInt_lt a0; have hs0 := Int32.le_toInt a0; have hr1 := Int32.toInt_lt a1; have hs1 := Int32.le_toInt a1; simp only [Int64.toInt_add, Int64.toInt_sub, Int32.toInt_add, Int32.toInt_sub, Int32.toInt_mul, Int64.le_iff_toInt_le, Int64.lt_iff_toInt_lt, Int32.le_iff_toInt_le, Int32.lt_iff_toInt_lt, ← Int32.toInt_inj, ← Int64.toInt_inj, Int32.toInt_toInt64, kc_m1, kc_0, kc_1, kc_2147483647, true_and, and_true, not_true_eq_false, not_false_eq_true] at * <;> ((first | omega | ((try simp (disch := omega) only [k_bm64] at *); (try simp (disch := omega) only [k_bm] at *); (try simp (disch := omega) only [k_bm] at *); omega) | (simp only [Int.bmod] at *; omega)))))
theorem lf_j_flyGeese_8 (a0 : Int32) (a1 : Int32) (a2 : Nat) (h0 : -1 ≤ a0 ∧ a0.toInt < 2147483647) (h1 : 0 ≤ a1 ∧ a1.toInt ≤ a0.toInt + 1) (h2 : (a0.toInt + 1 - a1.toInt).toNat = a2) (h3 : ¬ a0 < a1) (h4 : a1 < a0) : 0 ≤ (a1 + 1) ∧ (a1 + 1).toInt ≤ a0.toInt + 1 := by
  first | rfl | assumption | decide | exact Or.inl rfl | (first | rfl | assumption | decide | omega | (have hr0 := Int32.toInt_lt a0; have hs0 := Int32.le_toInt a0; have hr1 := Int32.toInt_lt a1; have hs1 := Int32.le_toInt a1; simp only [Int64.toInt_add, Int64.toInt_sub, Int32.toInt_add, Int32.toInt_sub, Int32.toInt_mul, Int64.le_iff_toInt_le, Int64.lt_iff_toInt_lt, Int32.le_iff_toInt_le, Int32.lt_iff_toInt_lt, ← Int32.toInt_inj, ← Int64.toInt_inj, Int32.toInt_toInt64, kc_m1, kc_0, kc_1, kc_2147483647, true_and, and_true, not_true_eq_false, not_false_eq_true] at * <;> ((first | omega | ((try simp (disch := omega) only [k_bm64] at *); (try simp (disch := omega) only [k_bm] at *); (try simp (disch := omega) only [k_bm] at *); omega) | (simp only [Int.bmod] at *; omega)))))
theorem lf_j_flyGeese_9 (a0 : Int32) (a1 : Int32) (a2 : Nat) (h0 : -1 ≤ a0 ∧ a0.toInt < 2147483647) (h1 : 0 ≤ a1 ∧ a1.toInt ≤ a0.toInt + 1) (h2 : (a0.toInt + 1 - a1.toInt).toNat = a2) (h3 : ¬ a0 < a1) (h4 : a1 < a0) : (a0.toInt + 1 - (a1 + 1).toInt).toNat < a2 := by
  first | rfl | assumption | decide | exact Or.inl rfl | (first | rfl | assumption | decide | omega | (have hr0 := Int32.toInt_lt a0; have hs0 := Int32.le_toInt a0; have hr1 := Int32.toInt_lt a1; have hs1 := Int32.le_toInt a1; simp only [Int64.toInt_add, Int64.toInt_sub, Int32.toInt_add, Int32.toInt_sub, Int32.toInt_mul, Int64.le_iff_toInt_le, Int64.lt_iff_toInt_lt, Int32.le_iff_toInt_le, Int32.lt_iff_toInt_lt, ← Int32.toInt_inj, ← Int64.toInt_inj, Int32.toInt_toInt64, kc_m1, kc_0, kc_1, kc_2147483647, true_and, and_true, not_true_eq_false, not_false_eq_true] at * <;> ((first | omega | ((try simp (disch := omega) only [k_bm64] at *); (try simp (disch := omega) only [k_bm] at *); (try simp (disch := omega) only [k_bm] at *); omega) | (simp only [Int.bmod] at *; omega)))))
theorem lf_j_flyGeese_10 (a0 : Int32) (a1 : Int32) (a2 : Nat) (h0 : -1 ≤ a0 ∧ a0.toInt < 2147483647) (h1 : 0 ≤ a1 ∧ a1.toInt ≤ a0.toInt + 1) (h2 : (a0.toInt + 1 - a1.toInt).toNat = a2) (h3 : ¬ a0 < a1) (h4 : ¬ a1 < a0) : ¬ (a0 + 1) ≤ a1 := by
  first | rfl | assumption | decide | exact Or.inl rfl | (first | rfl | assumption | decide | omega | (have hr0 := Int32.toInt_lt a0; have hs0 := Int32.le_toInt a0; have hr1 := Int32.toInt_lt a1; have hs1 := Int32.le_toInt a1; simp only [Int64.toInt_add, Int64.toInt_sub, Int32.toInt_add, Int32.toInt_sub, Int32.toInt_mul, Int64.le_iff_toInt_le, Int64.lt_iff_toInt_lt, Int32.le_iff_toInt_le, Int32.lt_iff_toInt_lt, ← Int32.toInt_inj, ← Int64.toInt_inj, Int32.toInt_toInt64, kc_m1, kc_0, kc_1, kc_2147483647, true_and, and_true, not_true_eq_false, not_false_eq_true] at * <;> ((first | omega | ((try simp (disch := omega) only [k_bm64] at *); (try simp (disch := omega) only [k_bm] at *); (try simp (disch := omega) only [k_bm] at *); omega) | (simp only [Int.bmod] at *; omega)))))
theorem lf_j_flyGeese_11 (a0 : Int32) (a1 : Int32) (a2 : Nat) (h0 : -1 ≤ a0 ∧ a0.toInt < 2147483647) (h1 : 0 ≤ a1 ∧ a1.toInt ≤ a0.toInt + 1) (h2 : (a0.toInt + 1 - a1.toInt).toNat = a2) (h3 : ¬ a0 < a1) (h4 : ¬ a1 < a0) : (a0 + 1) ≤ (a1 + 1) := by
  first | rfl | assumption | decide | exact Or.inl rfl | (first | rfl | assumption | decide | omega | (have hr0 := Int32.toInt_lt a0; have hs0 := Int32.le_toInt a0; have hr1 := Int32.toInt_lt a1; have hs1 := Int32.le_toInt a1; simp only [Int64.toInt_add, Int64.toInt_sub, Int32.toInt_add, Int32.toInt_sub, Int32.toInt_mul, Int64.le_iff_toInt_le, Int64.lt_iff_toInt_lt, Int32.le_iff_toInt_le, Int32.lt_iff_toInt_lt, ← Int32.toInt_inj, ← Int64.toInt_inj, Int32.toInt_toInt64, kc_m1, kc_0, kc_1, kc_2147483647, true_and, and_true, not_true_eq_false, not_false_eq_true] at * <;> ((first | omega | ((try simp (disch := omega) only [k_bm64] at *); (try simp (disch := omega) only [k_bm] at *); (try simp (disch := omega) only [k_bm] at *); omega) | (simp only [Int.bmod] at *; omega)))))
theorem lf_j_flyGeese_12 (a0 : Int32) (a1 : Int32) (a2 : Nat) (h0 : -1 ≤ a0 ∧ a0.toInt < 2147483647) (h1 : 0 ≤ a1 ∧ a1.toInt ≤ a0.toInt + 1) (h2 : (a0.toInt + 1 - a1.toInt).toNat = a2) (h3 : ¬ a0 < a1) (h4 : ¬ a1 < a0) : 0 ≤ (a1 + 1) ∧ (a1 + 1).toInt ≤ a0.toInt + 1 := by
  first | rfl | assumption | decide | exact Or.inl rfl | (first | rfl | assumption | decide | omega | (have hr0 := Int32.toInt_lt a0; have hs0 := Int32.le_toInt a0; have hr1 := Int32.toInt_lt a1; have hs1 := Int32.le_toInt a1; simp only [Int64.toInt_add, Int64.toInt_sub, Int32.toInt_add, Int32.toInt_sub, Int32.toInt_mul, Int64.le_iff_toInt_le, Int64.lt_iff_toInt_lt, Int32.le_iff_toInt_le, Int32.lt_iff_toInt_lt, ← Int32.toInt_inj, ← Int64.toInt_inj, Int32.toInt_toInt64, kc_m1, kc_0, kc_1, kc_2147483647, true_and, and_true, not_true_eq_false, not_false_eq_true] at * <;> ((first | omega | ((try simp (disch := omega) only [k_bm64] at *); (try simp (disch := omega) only [k_bm] at *); (try simp (disch := omega) only [k_bm] at *); omega) | (simp only [Int.bmod] at *; omega)))))
theorem lf_j_flyGeese_13 (a0 : Int32) (a1 : Int32) (a2 : Nat) (h0 : -1 ≤ a0 ∧ a0.toInt < 2147483647) (h1 : 0 ≤ a1 ∧ a1.toInt ≤ a0.toInt + 1) (h2 : (a0.toInt + 1 - a1.toInt).toNat = a2) (h3 : ¬ a0 < a1) (h4 : ¬ a1 < a0) : (a0.toInt + 1 - (a1 + 1).toInt).toNat < a2 := by
  first | rfl | assumption | decide | exact Or.inl rfl | (first | rfl | assumption | decide | omega | (have hr0 := Int32.toInt_lt a0; have hs0 := Int32.le_toInt a0; have hr1 := Int32.toInt_lt a1; have hs1 := Int32.le_toInt a1; simp only [Int64.toInt_add, Int64.toInt_sub, Int32.toInt_add, Int32.toInt_sub, Int32.toInt_mul, Int64.le_iff_toInt_le, Int64.lt_iff_toInt_lt, Int32.le_iff_toInt_le, Int32.lt_iff_toInt_lt, ← Int32.toInt_inj, ← Int64.toInt_inj, Int32.toInt_toInt64, kc_m1, kc_0, kc_1, kc_2147483647, true_and, and_true, not_true_eq_false, not_false_eq_true] at * <;> ((first | omega | ((try simp (disch := omega) only [k_bm64] at *); (try simp (disch := omega) only [k_bm] at *); (try simp (disch := omega) only [k_bm] at *); omega) | (simp only [Int.bmod] at *; omega)))))
set_option maxHeartbeats 4000000 in
set_option maxRecDepth 100000 in
theorem j_flyGeese (l : Launch) (dC : Nat → ClassId) (dI : Nat → Nat → Nat) (cI cJ cQ : ClassId) (sz : Nat) (aTr : Nat) (la1 : Int32) (ro : Int32) (aLa : Nat) (aPa : Nat) (aGe : Nat) (gL : Nat) (gR : Nat) (lf : Nat) (rt : Nat) (tgo : Int32) (tca : Int32) (tki : Int32) (tso : Int32) (tbe : Int32) (twe : Int32) (tle : Int32) (tan : Int32) (tco : Int32) (ten : Int32) (u0 : Int32) (u1 : Int32) (u2 : Int32) (u3 : Int32) (v0 : Int32) (v1 : Int32) (v2 : Int32) (v3 : Int32) (vLa : Nat) (l4 : Int32) (a4 : Int32) (n4 : Int32) (f4 : Nat → Int32) (hh0 : -1 ≤ la1 ∧ la1.toInt < 2147483647) : Met l yX10_flyGeese (kW yX10_flyGeese cX10_flyGeese 6 (some .int)) { frames := 1, cells := 0, slots := 0, locals := 21 } (kPre dC dI cI cJ cQ sz [.ref aTr, .int la1, .int ro] [(kX10 aTr aLa aPa aGe gL gR lf rt tgo tca tki tso tbe twe tle tan tco ten), (kX3 gL u0 u1 u2 u3), (kX3 gR v0 v1 v2 v3), (kX4 aLa vLa l4 a4 n4), (kAI vLa cI 24 f4)]) (va_Qi (fun (r : Int32) (u : kS) => (r = (kCt (kAt 24 f4) twe (kfu (la1 + 1) 0) 0 ((u0, u1, u0, 0), (v0, v1, v0, 0)))) ∧ (((u.2.2.2.2 0) = gL ∧ (u.2.2.2.2 1) = gR) ∨ ((u.2.2.2.2 0) = gR ∧ (u.2.2.2.2 1) = gL))) (fun (u : kS) t₀ => kB dC dI cI cJ cQ (va_A [(kX10 aTr aLa aPa aGe gL gR lf rt tgo tca tki tso tbe twe tle tan tco ten), (kX3 gL u0 u1 u2 u3), (kX3 gR v0 v1 v2 v3), (kX4 aLa vLa l4 a4 n4), (kAI vLa cI 24 f4)] sz) [(kX10 aTr aLa aPa aGe gL gR (u.2.2.2.2 0) (u.2.2.2.2 1) tgo tca tki tso tbe twe tle tan tco ten), (kX3 gL (u.1 0) (u.1 1) (u.1 2) (u.1 3)), (kX3 gR (u.1 4) (u.1 5) (u.1 6) (u.1 7)), (kX4 aLa vLa l4 a4 n4), (kAI vLa cI 24 f4)] t₀) (va_A [(kX10 aTr aLa aPa aGe gL gR lf rt tgo tca tki tso tbe twe tle tan tco ten), (kX3 gL u0 u1 u2 u3), (kX3 gR v0 v1 v2 v3), (kX4 aLa vLa l4 a4 n4), (kAI vLa cI 24 f4)] sz)) 0 0 (va_A [(kX10 aTr aLa aPa aGe gL gR lf rt tgo tca tki tso tbe twe tle tan tco ten), (kX3 gL u0 u1 u2 u3), (kX3 gR v0 v1 v2 v3), (kX4 aLa vLa l4 a4 n4), (kAI vLa cI 24 f4)] sz) := by
  refine Met.ofW (cc := cX10_flyGeese) (maxL := 6) (ret := (some .int)) (by decide) rfl ?_
  intro p₀ e₀ s₀ m₀ args below meth c₀ s₁ B hml hv₀
  obtain ⟨rfl, hsz, hP, hK, hD0, hN⟩ := hv₀
  have hx₀ := B.exec
  have hb := B.bytes
  have hr := B.returns
  have hts := atoms_spec (ws := (kW yX10_flyGeese cX10_flyGeese 6 (some .int))) B.pre
  have hts := fun w h => hts w (List.mem_cons_of_mem _ h)
  have hown : s₀.vm.findClass RX10 = some m₀.cls := findClass_of_methodNamed B.named
  have hlocks := B.notSynchronized
  subst hsz
  have hD := hD0.self (sz := s₀.heap.size)
  generalize hAe : va_A [(kX10 aTr aLa aPa aGe gL gR lf rt tgo tca tki tso tbe twe tle tan tco ten), (kX3 gL u0 u1 u2 u3), (kX3 gR v0 v1 v2 v3), (kX4 aLa vLa l4 a4 n4), (kAI vLa cI 24 f4)] s₀.heap.size = A at hD ⊢
  have hA : ∀ q : Nat, s₀.heap.size ≤ q → A q := fun q h => by rw [← hAe]; exact Or.inr h
  have hS : va_S A s₀.heap s₀.heap [] := va_S.rf
  have hP : va_P (dC, dI) vwCl [(kX10 aTr aLa aPa aGe gL gR lf rt tgo tca tki tso tbe twe tle tan tco ten), (kX3 gL u0 u1 u2 u3), (kX3 gR v0 v1 v2 v3), (kX4 aLa vLa l4 a4 n4), (kAI vLa cI 24 f4)] s₀.heap := hP
  have hl := lv_entry ([.ref aTr, .int la1, .int ro]) (n := 6) (Nat.le_of_ble_eq_true rfl)
  rw [lg_entry_eq]
  generalize (lg_sl ([.ref aTr, .int la1, .int ro]) ++ List.replicate (6 - (lg_sl ([.ref aTr, .int la1, .int ro])).length) Slot.unset).toArray = ls at hl ⊢
  have hl : lv_has ls 6 [(0, .ref aTr), (1, .int la1), (2, .int ro)] := hl
  obtain ⟨H, hH⟩ : ∃ z : Heap, z = s₀.heap := ⟨_, rfl⟩
  rw [← hH] at hP
  have hS : va_S A s₀.heap H [] := by rw [hH]; exact hS
  refine k_heap hH ?_
  have hD : va_D A [(kX10 aTr aLa aPa aGe gL gR lf rt tgo tca tki tso tbe twe tle tan tco ten), (kX3 gL u0 u1 u2 u3), (kX3 gR v0 v1 v2 v3), (kX4 aLa vLa l4 a4 n4), (kAI vLa cI 24 f4)] := hD
  obtain ⟨locs, hlo⟩ : ∃ z : List Loc, z = [] := ⟨_, rfl⟩
  rw [← hlo] at hS ⊢
  clear hlo hH hAe hD0
  refine lv_aload_n hx₀ hb dX10_flyGeese_0 rfl (lv_at hl 0 rfl) ?_
  refine lv_aload_n hx₀ hb dX10_flyGeese_1 rfl (lv_at hl 0 rfl) ?_
  refine va_get (D := (dC, dI)) (ci := 9) (v := .ref gL) (C := RX10) (T := TX10) (N := 17) hx₀ hb hts inlX10 hown hK hP 0 rfl rfl 3 (by decide) (hts (.fieldLink RX10 12 "BittenStick$Trip" "toldLeft" "LBittenStick$Goose;") wd_85) (fun _ h9 => h9) rfl dX10_flyGeese_2 ?_
  refine va_put (D := (dC, dI)) (ci := 9) (v := .ref gL) (ty := .object "BittenStick$Goose") (C := RX10) (T := TX10) (N := 17) hx₀ hb hts inlX10 tyX10 tyX10_ok nmX10 hown hK hP hD hS 0 rfl rfl 5 (by decide) (hts (.fieldLink RX10 21 "BittenStick$Trip" "left" "LBittenStick$Goose;") wd_87) (fun _ h9 => h9) rfl (by decide +kernel) rfl rfl (Nat.le_of_ble_eq_true rfl) dX10_flyGeese_5 ?_
  clear hP hD hS
  intro H locs hP hD hS
  replace hP := k_w2 (wt := [(kX10 aTr aLa aPa aGe gL gR gL rt tgo tca tki tso tbe twe tle tan tco ten), (kX3 gL u0 u1 u2 u3), (kX3 gR v0 v1 v2 v3), (kX4 aLa vLa l4 a4 n4), (kAI vLa cI 24 f4)]) hP hD rfl
  replace hD := hP.2
  replace hP := hP.1
  refine lv_aload_n hx₀ hb dX10_flyGeese_8 rfl (lv_at hl 0 rfl) ?_
  refine lv_aload_n hx₀ hb dX10_flyGeese_9 rfl (lv_at hl 0 rfl) ?_
  refine va_get (D := (dC, dI)) (ci := 9) (v := .ref gR) (C := RX10) (T := TX10) (N := 17) hx₀ hb hts inlX10 hown hK hP 0 rfl rfl 4 (by decide) (hts (.fieldLink RX10 18 "BittenStick$Trip" "toldRight" "LBittenStick$Goose;") wd_86) (fun _ h9 => h9) rfl dX10_flyGeese_10 ?_
  refine va_put (D := (dC, dI)) (ci := 9) (v := .ref gR) (ty := .object "BittenStick$Goose") (C := RX10) (T := TX10) (N := 17) hx₀ hb hts inlX10 tyX10 tyX10_ok nmX10 hown hK hP hD hS 0 rfl rfl 6 (by decide) (hts (.fieldLink RX10 24 "BittenStick$Trip" "right" "LBittenStick$Goose;") wd_88) (fun _ h9 => h9) rfl (by decide +kernel) rfl rfl (Nat.le_of_ble_eq_true rfl) dX10_flyGeese_13 ?_
  clear hP hD hS
  intro H locs hP hD hS
  replace hP := k_w2 (wt := [(kX10 aTr aLa aPa aGe gL gR gL gR tgo tca tki tso tbe twe tle tan tco ten), (kX3 gL u0 u1 u2 u3), (kX3 gR v0 v1 v2 v3), (kX4 aLa vLa l4 a4 n4), (kAI vLa cI 24 f4)]) hP hD rfl
  replace hD := hP.2
  replace hP := hP.1
  refine lv_aload_n hx₀ hb dX10_flyGeese_16 rfl (lv_at hl 0 rfl) ?_
  refine va_get (D := (dC, dI)) (ci := 9) (v := .ref gL) (C := RX10) (T := TX10) (N := 17) hx₀ hb hts inlX10 hown hK hP 0 rfl rfl 5 (by decide) (hts (.fieldLink RX10 21 "BittenStick$Trip" "left" "LBittenStick$Goose;") wd_87) (fun _ h9 => h9) rfl dX10_flyGeese_17 ?_
  obtain ⟨hPc, hDc, hFc, hC⟩ := k_cw (wc := [(kX3 gL u0 u1 u2 u3)]) hP hD hS hA [1] (by decide +kernel) rfl
  refine va_callv (va_runV (As := []) (rest := []) ⟨hx₀, hb, hml, hown, hts⟩ (j_gSet l dC dI cI cJ cQ H.size gL u0 u1 u2 u3) (cwV 0 hts (kGV wd_474 wd_471 wd_472 wd_473 wd_84) rfl rfl rfl (by decide +kernel) ⟨Nat.le_of_ble_eq_true rfl, Nat.le_of_ble_eq_true rfl⟩) (k_preV3 (q0 := 0) hK hPc hDc hN rfl) rfl rfl hl.1 rfl (lv_room (Nat.le_of_ble_eq_true rfl)) dX10_flyGeese_20 ⟨by decide +kernel, by decide +kernel⟩) hS (fun q _ h => hFc q h) hFc (fun u₀ t₀ H1 locs ht hvm hw hB hz1 hk1 hS => ?_)
  obtain ⟨hP1, hK1, hD1⟩ := hB
  rw [ht] at hP1
  have hJ := k_jn (wr := [(kX10 aTr aLa aPa aGe gL gR gL gR tgo tca tki tso tbe twe tle tan tco ten), (kX3 gR v0 v1 v2 v3), (kX4 aLa vLa l4 a4 n4), (kAI vLa cI 24 f4)]) (wt := [(kX10 aTr aLa aPa aGe gL gR gL gR tgo tca tki tso tbe twe tle tan tco ten), (kX3 gR v0 v1 v2 v3), (kX4 aLa vLa l4 a4 n4), (kAI vLa cI 24 f4), (kX3 gL u0 u1 u0 0)]) hP hD hC [0, 2, 3, 4] rfl (by decide +kernel) (by decide +kernel) hk1 hFc hP1 hD1 rfl
  clear hP hD hPc hDc hFc hC hP1 hD1 hK1 hz1 hk1 hvm ht
  obtain ⟨hP, hD⟩ := hJ
  generalize H1 = H at hP hS ⊢
  refine lv_aload_n hx₀ hb dX10_flyGeese_23 rfl (lv_at hl 0 rfl) ?_
  refine va_get (D := (dC, dI)) (ci := 9) (v := .ref gR) (C := RX10) (T := TX10) (N := 17) hx₀ hb hts inlX10 hown hK hP 0 rfl rfl 6 (by decide) (hts (.fieldLink RX10 24 "BittenStick$Trip" "right" "LBittenStick$Goose;") wd_88) (fun _ h9 => h9) rfl dX10_flyGeese_24 ?_
  obtain ⟨hPc, hDc, hFc, hC⟩ := k_cw (wc := [(kX3 gR v0 v1 v2 v3)]) hP hD hS hA [1] (by decide +kernel) rfl
  refine va_callv (va_runV (As := []) (rest := []) ⟨hx₀, hb, hml, hown, hts⟩ (j_gSet l dC dI cI cJ cQ H.size gR v0 v1 v2 v3) (cwV 0 hts (kGV wd_474 wd_471 wd_472 wd_473 wd_84) rfl rfl rfl (by decide +kernel) ⟨Nat.le_of_ble_eq_true rfl, Nat.le_of_ble_eq_true rfl⟩) (k_preV3 (q0 := 0) hK hPc hDc hN rfl) rfl rfl hl.1 rfl (lv_room (Nat.le_of_ble_eq_true rfl)) dX10_flyGeese_27 ⟨by decide +kernel, by decide +kernel⟩) hS (fun q _ h => hFc q h) hFc (fun u₀ t₀ H1 locs ht hvm hw hB hz1 hk1 hS => ?_)
  obtain ⟨hP1, hK1, hD1⟩ := hB
  rw [ht] at hP1
  have hJ := k_jn (wr := [(kX10 aTr aLa aPa aGe gL gR gL gR tgo tca tki tso tbe twe tle tan tco ten), (kX4 aLa vLa l4 a4 n4), (kAI vLa cI 24 f4), (kX3 gL u0 u1 u0 0)]) (wt := [(kX10 aTr aLa aPa aGe gL gR gL gR tgo tca tki tso tbe twe tle tan tco ten), (kX4 aLa vLa l4 a4 n4), (kAI vLa cI 24 f4), (kX3 gL u0 u1 u0 0), (kX3 gR v0 v1 v0 0)]) hP hD hC [0, 2, 3, 4] rfl (by decide +kernel) (by decide +kernel) hk1 hFc hP1 hD1 rfl
  clear hP hD hPc hDc hFc hC hP1 hD1 hK1 hz1 hk1 hvm ht
  obtain ⟨hP, hD⟩ := hJ
  generalize H1 = H at hP hS ⊢
  refine lv_iconst (v := 0) hx₀ hb dX10_flyGeese_30 (by decide +kernel) ?_
  refine lv_istore_n (lv' := [(3, .int 0), (0, .ref aTr), (1, .int la1), (2, .int ro)]) hx₀ hb dX10_flyGeese_31 rfl hl (by decide) rfl (fun ls hl => ?_)
  refine (?keyz3 : ∀ (jz3 : Nat) (iz3 : Int32) (pz3 : Nat) (qz3 : Nat) (w0z3 : Int32) (w1z3 : Int32) (w2z3 : Int32) (w3z3 : Int32) (z0z3 : Int32) (z1z3 : Int32) (z2z3 : Int32) (z3z3 : Int32) (H : Heap) (locs : List Loc) (ls : Array Slot), ((gL = pz3 ∧ gR = qz3 ∧ k_ct (kAt 24 f4) twe (la1 + 1) iz3 (w0z3, w1z3, w2z3, w3z3) (z0z3, z1z3, z2z3, z3z3) (kCt (kAt 24 f4) twe (kfu (la1 + 1) 0) 0 ((u0, u1, u0, 0), (v0, v1, v0, 0)))) ∨ (gR = pz3 ∧ gL = qz3 ∧ k_ct (kAt 24 f4) twe (la1 + 1) iz3 (z0z3, z1z3, z2z3, z3z3) (w0z3, w1z3, w2z3, w3z3) (kCt (kAt 24 f4) twe (kfu (la1 + 1) 0) 0 ((u0, u1, u0, 0), (v0, v1, v0, 0))))) → (0 ≤ iz3 ∧ iz3.toInt ≤ la1.toInt + 1) → ((la1.toInt + 1 - iz3.toInt).toNat = jz3) → va_P (dC, dI) vwCl [(kX10 aTr aLa aPa aGe gL gR pz3 qz3 tgo tca tki tso tbe twe tle tan tco ten), (kX4 aLa vLa l4 a4 n4), (kAI vLa cI 24 f4), (kX3 gL w0z3 w1z3 w2z3 w3z3), (kX3 gR z0z3 z1z3 z2z3 z3z3)] H → va_D A [(kX10 aTr aLa aPa aGe gL gR pz3 qz3 tgo tca tki tso tbe twe tle tan tco ten), (kX4 aLa vLa l4 a4 n4), (kAI vLa cI 24 f4), (kX3 gL w0z3 w1z3 w2z3 w3z3), (kX3 gR z0z3 z1z3 z2z3 z3z3)] → va_S A s₀.heap H locs → lv_has ls 6 [(3, .int iz3), (0, .ref aTr), (1, .int la1), (2, .int ro)] → W p₀ l e₀ _ s₀ m₀ _ below meth c₀ H locs _ _ _ (F0 m₀ 32 ls [])) _ (0 : Int32) gL gR u0 u1 u0 (0 : Int32) v0 v1 v0 (0 : Int32) H locs ls (Or.inl ⟨rfl, rfl, rfl⟩) (lf_j_flyGeese_1 la1 hh0) rfl hP hD hS hl
  clear hP hD hS hl
  intro jz3
  induction jz3 using Nat.strongRecOn with
  | ind jz3 ihz3 =>
    intro iz3 pz3 qz3 w0z3 w1z3 w2z3 w3z3 z0z3 z1z3 z2z3 z3z3 H locs ls hiz3_0 hiz3_1 hjz3 hP hD hS hl
    rcases hiz3_0 with ⟨rfl, rfl, hkz3⟩ | ⟨rfl, rfl, hkz3⟩
    · refine lv_iload_n hx₀ hb dX10_flyGeese_32 rfl (lv_at hl 0 rfl) ?_
      refine lv_iload_n hx₀ hb dX10_flyGeese_33 rfl (lv_at hl 2 rfl) ?_
      refine lv_icmp_gt (tgt := 160) hx₀ hb dX10_flyGeese_34 (by decide) (fun c_4 => ?_) (fun c_4 => ?_)
      · refine lv_iload_n hx₀ hb dX10_flyGeese_160 rfl (lv_at hl 2 rfl) ?_
        refine lv_iconst (v := 1) hx₀ hb dX10_flyGeese_161 (by decide +kernel) ?_
        refine lv_iadd hx₀ hb dX10_flyGeese_162 ?_
        obtain ⟨hP9, hD9⟩ := k_c2 (wc := [(kX10 aTr aLa aPa aGe gL gR gL gR tgo tca tki tso tbe twe tle tan tco ten), (kX3 gL w0z3 w1z3 w2z3 w3z3), (kX3 gR z0z3 z1z3 z2z3 z3z3), (kX4 aLa vLa l4 a4 n4), (kAI vLa cI 24 f4)]) hP hD [0, 3, 4, 1, 2] (by decide +kernel) rfl
        exact W.iret (v := la1 + 1) hx₀ hb hr (fun t₀ ht hW => ⟨⟨la1 + 1, (k_fn [w0z3, w1z3, w2z3, w3z3, z0z3, z1z3, z2z3, z3z3], k_fa [], k_fl [], k_fL [], k_fp [gL, gR]), rfl, ⟨(kCt_end hkz3 (lf_j_flyGeese_2 la1 iz3 jz3 hh0 hiz3_1 hjz3 c_4) (lf_j_flyGeese_3 la1 iz3 jz3 hh0 hiz3_1 hjz3 c_4)), (show (gL = gL ∧ gR = gR) ∨ (gL = gR ∧ gR = gL) from (Or.inl (⟨rfl, rfl⟩)))⟩, by rw [ht]; exact hP9, va_K.moved hW.alike hK, hD9⟩, hS.F ht⟩) hS.2.2 dX10_flyGeese_163
      · refine lv_aload_n hx₀ hb dX10_flyGeese_37 rfl (lv_at hl 1 rfl) ?_
        refine va_get (D := (dC, dI)) (ci := 9) (v := .ref aLa) (C := RX10) (T := TX10) (N := 17) hx₀ hb hts inlX10 hown hK hP 0 rfl rfl 0 (by decide) (hts (.fieldLink RX10 27 "BittenStick$Trip" "land" "LBittenStick$Land;") wd_89) (fun _ h9 => h9) rfl dX10_flyGeese_38 ?_
        refine lv_iload_n hx₀ hb dX10_flyGeese_41 rfl (lv_at hl 0 rfl) ?_
        obtain ⟨hPc, hDc, hFc, hC⟩ := k_cw (wc := [(kX4 aLa vLa l4 a4 n4), (kAI vLa cI 24 f4)]) hP hD hS hA [1, 2] (by decide +kernel) rfl
        refine va_calli (va_runU (As := [.int iz3]) (rest := []) ⟨hx₀, hb, hml, hown, hts⟩ (j_valueAt_X4 l dC dI cI cJ cQ H.size aLa iz3 vLa l4 a4 n4 f4) (va_cwU 1 hts (kGU wd_179 wd_478 wd_288 wd_289 wd_178 wd_57) rfl rfl rfl rfl (by decide +kernel) ⟨Nat.le_of_ble_eq_true rfl, Nat.le_of_ble_eq_true rfl⟩) (k_preV4 (q0 := 0) hK hPc hDc hN rfl) rfl rfl hl.1 rfl (lv_room (Nat.le_of_ble_eq_true rfl)) dX10_flyGeese_42 ⟨by decide +kernel, by decide +kernel⟩) hS (fun q _ h => hFc q h) hFc (fun r_5 u₀ t₀ H1 locs ht hvm hw hB hz1 hk1 hS => ?_)
        obtain ⟨hP1, hK1, hD1⟩ := hB
        rw [ht] at hP1
        have hJ := k_jn (wr := [(kX10 aTr aLa aPa aGe gL gR gL gR tgo tca tki tso tbe twe tle tan tco ten), (kX3 gL w0z3 w1z3 w2z3 w3z3), (kX3 gR z0z3 z1z3 z2z3 z3z3)]) (wt := [(kX10 aTr aLa aPa aGe gL gR gL gR tgo tca tki tso tbe twe tle tan tco ten), (kX3 gL w0z3 w1z3 w2z3 w3z3), (kX3 gR z0z3 z1z3 z2z3 z3z3), (kX4 aLa vLa l4 a4 n4), (kAI vLa cI 24 f4)]) hP hD hC [0, 3, 4] rfl (by decide +kernel) (by decide +kernel) hk1 hFc hP1 hD1 rfl
        clear hP hD hPc hDc hFc hC hP1 hD1 hK1 hz1 hk1 hvm ht
        obtain ⟨hP, hD⟩ := hJ
        generalize H1 = H at hP hS ⊢
        try dsimp only at hw
        refine k_topi (v := kAt 24 f4 iz3) hw ?_
        refine lv_istore (lv' := [(4, .int (kAt 24 f4 iz3)), (3, .int iz3), (0, .ref aTr), (1, .int la1), (2, .int ro)]) hx₀ hb dX10_flyGeese_45 hl (by decide) rfl (fun ls hl => ?_)
        refine lv_iload hx₀ hb dX10_flyGeese_47 (lv_at hl 0 rfl) ?_
        refine lv_bipush (v := 8) hx₀ hb dX10_flyGeese_49 (by decide +kernel) ?_
        refine lv_icmp_ne (tgt := 74) hx₀ hb dX10_flyGeese_51 (by decide) (fun c_6 => ?_) (fun c_6 => ?_)
        · refine lv_aload_n hx₀ hb dX10_flyGeese_74 rfl (lv_at hl 2 rfl) ?_
          refine va_get (D := (dC, dI)) (ci := 9) (v := .ref gL) (C := RX10) (T := TX10) (N := 17) hx₀ hb hts inlX10 hown hK hP 0 rfl rfl 5 (by decide) (hts (.fieldLink RX10 21 "BittenStick$Trip" "left" "LBittenStick$Goose;") wd_87) (fun _ h9 => h9) rfl dX10_flyGeese_75 ?_
          obtain ⟨hPc, hDc, hFc, hC⟩ := k_cw (wc := [(kX3 gL w0z3 w1z3 w2z3 w3z3)]) hP hD hS hA [1] (by decide +kernel) rfl
          refine va_callv (va_runV (As := []) (rest := []) ⟨hx₀, hb, hml, hown, hts⟩ (j_gFly l dC dI cI cJ cQ H.size gL w0z3 w1z3 w2z3 w3z3) (cwV 0 hts (kGV wd_482 wd_479 wd_480 wd_481 wd_84) rfl rfl rfl (by decide +kernel) ⟨Nat.le_of_ble_eq_true rfl, Nat.le_of_ble_eq_true rfl⟩) (k_preV3 (q0 := 0) hK hPc hDc hN rfl) rfl rfl hl.1 rfl (lv_room (Nat.le_of_ble_eq_true rfl)) dX10_flyGeese_78 ⟨by decide +kernel, by decide +kernel⟩) hS (fun q _ h => hFc q h) hFc (fun u₀ t₀ H1 locs ht hvm hw hB hz1 hk1 hS => ?_)
          obtain ⟨g_8, ga_9, gl_10, gb_11, gp_12⟩ := u₀
          obtain ⟨hP1, hK1, hD1⟩ := hB
          rw [ht] at hP1
          have hJ := k_jn (wr := [(kX10 aTr aLa aPa aGe gL gR gL gR tgo tca tki tso tbe twe tle tan tco ten), (kX3 gR z0z3 z1z3 z2z3 z3z3), (kX4 aLa vLa l4 a4 n4), (kAI vLa cI 24 f4)]) (wt := [(kX10 aTr aLa aPa aGe gL gR gL gR tgo tca tki tso tbe twe tle tan tco ten), (kX3 gR z0z3 z1z3 z2z3 z3z3), (kX4 aLa vLa l4 a4 n4), (kAI vLa cI 24 f4), (kX3 gL w0z3 w1z3 (g_8 0) (g_8 1))]) hP hD hC [0, 2, 3, 4] rfl (by decide +kernel) (by decide +kernel) hk1 hFc hP1 hD1 rfl
          clear hP hD hPc hDc hFc hC hP1 hD1 hK1 hz1 hk1 hvm ht
          obtain ⟨hP, hD⟩ := hJ
          generalize H1 = H at hP hS ⊢
          try dsimp only at hw
          obtain ⟨c_13, c_14⟩ := hw
          refine lv_aload_n hx₀ hb dX10_flyGeese_81 rfl (lv_at hl 2 rfl) ?_
          refine va_get (D := (dC, dI)) (ci := 9) (v := .ref gR) (C := RX10) (T := TX10) (N := 17) hx₀ hb hts inlX10 hown hK hP 0 rfl rfl 6 (by decide) (hts (.fieldLink RX10 24 "BittenStick$Trip" "right" "LBittenStick$Goose;") wd_88) (fun _ h9 => h9) rfl dX10_flyGeese_82 ?_
          obtain ⟨hPc, hDc, hFc, hC⟩ := k_cw (wc := [(kX3 gR z0z3 z1z3 z2z3 z3z3)]) hP hD hS hA [1] (by decide +kernel) rfl
          refine va_callv (va_runV (As := []) (rest := []) ⟨hx₀, hb, hml, hown, hts⟩ (j_gFly l dC dI cI cJ cQ H.size gR z0z3 z1z3 z2z3 z3z3) (cwV 0 hts (kGV wd_482 wd_479 wd_480 wd_481 wd_84) rfl rfl rfl (by decide +kernel) ⟨Nat.le_of_ble_eq_true rfl, Nat.le_of_ble_eq_true rfl⟩) (k_preV3 (q0 := 0) hK hPc hDc hN rfl) rfl rfl hl.1 rfl (lv_room (Nat.le_of_ble_eq_true rfl)) dX10_flyGeese_85 ⟨by decide +kernel, by decide +kernel⟩) hS (fun q _ h => hFc q h) hFc (fun u₀ t₀ H1 locs ht hvm hw hB hz1 hk1 hS => ?_)
          obtain ⟨g_16, ga_17, gl_18, gb_19, gp_20⟩ := u₀
          obtain ⟨hP1, hK1, hD1⟩ := hB
          rw [ht] at hP1
          have hJ := k_jn (wr := [(kX10 aTr aLa aPa aGe gL gR gL gR tgo tca tki tso tbe twe tle tan tco ten), (kX4 aLa vLa l4 a4 n4), (kAI vLa cI 24 f4), (kX3 gL w0z3 w1z3 (g_8 0) (g_8 1))]) (wt := [(kX10 aTr aLa aPa aGe gL gR gL gR tgo tca tki tso tbe twe tle tan tco ten), (kX4 aLa vLa l4 a4 n4), (kAI vLa cI 24 f4), (kX3 gL w0z3 w1z3 (g_8 0) (g_8 1)), (kX3 gR z0z3 z1z3 (g_16 0) (g_16 1))]) hP hD hC [0, 2, 3, 4] rfl (by decide +kernel) (by decide +kernel) hk1 hFc hP1 hD1 rfl
          clear hP hD hPc hDc hFc hC hP1 hD1 hK1 hz1 hk1 hvm ht
          obtain ⟨hP, hD⟩ := hJ
          generalize H1 = H at hP hS ⊢
          try dsimp only at hw
          obtain ⟨c_21, c_22⟩ := hw
          refine lv_aload_n hx₀ hb dX10_flyGeese_88 rfl (lv_at hl 2 rfl) ?_
          refine va_get (D := (dC, dI)) (ci := 9) (v := .ref gL) (C := RX10) (T := TX10) (N := 17) hx₀ hb hts inlX10 hown hK hP 0 rfl rfl 5 (by decide) (hts (.fieldLink RX10 21 "BittenStick$Trip" "left" "LBittenStick$Goose;") wd_87) (fun _ h9 => h9) rfl dX10_flyGeese_89 ?_
          refine va_get (D := (dC, dI)) (ci := 3) (v := .int (g_8 0)) (C := RX3) (T := TX3) (N := 4) hx₀ hb hts inlX3 hown hK hP 3 rfl rfl 2 (by decide) (hts (.fieldLink RX10 97 "BittenStick$Goose" "strong" "I") wd_470) (fun _ h9 => h9) rfl dX10_flyGeese_92 ?_
          refine lv_aload_n hx₀ hb dX10_flyGeese_95 rfl (lv_at hl 2 rfl) ?_
          refine va_get (D := (dC, dI)) (ci := 9) (v := .int twe) (C := RX10) (T := TX10) (N := 17) hx₀ hb hts inlX10 hown hK hP 0 rfl rfl 12 (by decide) (hts (.fieldLink RX10 69 "BittenStick$Trip" "weight" "I") wd_458) (fun _ h9 => h9) rfl dX10_flyGeese_96 ?_
          refine lv_iconst (v := 1) hx₀ hb dX10_flyGeese_99 (by decide +kernel) ?_
          refine lv_iadd hx₀ hb dX10_flyGeese_100 ?_
          refine lv_iconst (v := 2) hx₀ hb dX10_flyGeese_101 (by decide +kernel) ?_
          refine lv_idiv hx₀ hb dX10_flyGeese_102 (by decide +kernel) ?_
          refine lv_icmp_lt (tgt := 122) hx₀ hb dX10_flyGeese_103 (by decide) (fun c_23 => ?_) (fun c_23 => ?_)
          · refine lv_iload_n hx₀ hb dX10_flyGeese_122 rfl (lv_at hl 1 rfl) ?_
            obtain ⟨hP9, hD9⟩ := k_c2 (wc := [(kX10 aTr aLa aPa aGe gL gR gL gR tgo tca tki tso tbe twe tle tan tco ten), (kX3 gL w0z3 w1z3 (g_8 0) (g_8 1)), (kX3 gR z0z3 z1z3 (g_16 0) (g_16 1)), (kX4 aLa vLa l4 a4 n4), (kAI vLa cI 24 f4)]) hP hD [0, 3, 4, 1, 2] (by decide +kernel) rfl
            exact W.iret (v := iz3) hx₀ hb hr (fun t₀ ht hW => ⟨⟨iz3, (k_fn [w0z3, w1z3, (g_8 0), (g_8 1), z0z3, z1z3, (g_16 0), (g_16 1)], k_fa [], k_fl [], k_fL [], k_fp [gL, gR]), rfl, ⟨(kCt_f hkz3 (lf_j_flyGeese_4 la1 iz3 jz3 hh0 hiz3_1 hjz3 c_4) c_6 c_13 c_21 (Or.inl c_23)), (show (gL = gL ∧ gR = gR) ∨ (gL = gR ∧ gR = gL) from (Or.inl (⟨rfl, rfl⟩)))⟩, by rw [ht]; exact hP9, va_K.moved hW.alike hK, hD9⟩, hS.F ht⟩) hS.2.2 dX10_flyGeese_123
          · refine lv_aload_n hx₀ hb dX10_flyGeese_106 rfl (lv_at hl 2 rfl) ?_
            refine va_get (D := (dC, dI)) (ci := 9) (v := .ref gR) (C := RX10) (T := TX10) (N := 17) hx₀ hb hts inlX10 hown hK hP 0 rfl rfl 6 (by decide) (hts (.fieldLink RX10 24 "BittenStick$Trip" "right" "LBittenStick$Goose;") wd_88) (fun _ h9 => h9) rfl dX10_flyGeese_107 ?_
            refine va_get (D := (dC, dI)) (ci := 3) (v := .int (g_16 0)) (C := RX3) (T := TX3) (N := 4) hx₀ hb hts inlX3 hown hK hP 4 rfl rfl 2 (by decide) (hts (.fieldLink RX10 97 "BittenStick$Goose" "strong" "I") wd_470) (fun _ h9 => h9) rfl dX10_flyGeese_110 ?_
            refine lv_aload_n hx₀ hb dX10_flyGeese_113 rfl (lv_at hl 2 rfl) ?_
            refine va_get (D := (dC, dI)) (ci := 9) (v := .int twe) (C := RX10) (T := TX10) (N := 17) hx₀ hb hts inlX10 hown hK hP 0 rfl rfl 12 (by decide) (hts (.fieldLink RX10 69 "BittenStick$Trip" "weight" "I") wd_458) (fun _ h9 => h9) rfl dX10_flyGeese_114 ?_
            refine lv_iconst (v := 2) hx₀ hb dX10_flyGeese_117 (by decide +kernel) ?_
            refine lv_idiv hx₀ hb dX10_flyGeese_118 (by decide +kernel) ?_
            refine lv_icmp_ge (tgt := 124) hx₀ hb dX10_flyGeese_119 (by decide) (fun c_24 => ?_) (fun c_24 => ?_)
            · refine lv_iload hx₀ hb dX10_flyGeese_124 (lv_at hl 0 rfl) ?_
              refine lv_bipush (v := 7) hx₀ hb dX10_flyGeese_126 (by decide +kernel) ?_
              refine lv_icmp_ne (tgt := 154) hx₀ hb dX10_flyGeese_128 (by decide) (fun c_25 => ?_) (fun c_25 => ?_)
              · refine lv_iinc (v := iz3 + 1) (lv' := [(3, .int (iz3 + 1)), (4, .int (kAt 24 f4 iz3)), (0, .ref aTr), (1, .int la1), (2, .int ro)]) hx₀ hb dX10_flyGeese_154 hl (k := 1) rfl rfl (by decide) rfl (fun ls hl => ?_)
                refine lv_goto (tgt := 32) hx₀ hb dX10_flyGeese_157 (by decide) ?_
                exact ihz3 _ (lf_j_flyGeese_6 la1 iz3 jz3 hh0 hiz3_1 hjz3 c_4) (iz3 + 1) gL gR w0z3 w1z3 (g_8 0) (g_8 1) z0z3 z1z3 (g_16 0) (g_16 1) _ _ _ (Or.inl ⟨rfl, rfl, kCt_o hkz3 (lf_j_flyGeese_4 la1 iz3 jz3 hh0 hiz3_1 hjz3 c_4) c_6 c_25 c_13 c_14 c_21 c_22 c_23 (Int32.not_lt.mpr c_24)⟩) (lf_j_flyGeese_5 la1 iz3 jz3 hh0 hiz3_1 hjz3 c_4) rfl (hP.sub [0, 1, 2, 3, 4] rfl) (hD.sub [0, 1, 2, 3, 4] (by decide +kernel) rfl) hS (lv_sub hl [0, 2, 3, 4] rfl)
              · refine lv_iload_n hx₀ hb dX10_flyGeese_131 rfl (lv_at hl 1 rfl) ?_
                refine lv_iload_n hx₀ hb dX10_flyGeese_132 rfl (lv_at hl 3 rfl) ?_
                refine lv_icmp_lt (tgt := 140) hx₀ hb dX10_flyGeese_133 (by decide) (fun c_26 => ?_) (fun c_26 => ?_)
                · refine lv_aload_n hx₀ hb dX10_flyGeese_140 rfl (lv_at hl 2 rfl) ?_
                  refine va_get (D := (dC, dI)) (ci := 9) (v := .ref gL) (C := RX10) (T := TX10) (N := 17) hx₀ hb hts inlX10 hown hK hP 0 rfl rfl 5 (by decide) (hts (.fieldLink RX10 21 "BittenStick$Trip" "left" "LBittenStick$Goose;") wd_87) (fun _ h9 => h9) rfl dX10_flyGeese_141 ?_
                  obtain ⟨hPc, hDc, hFc, hC⟩ := k_cw (wc := [(kX3 gL w0z3 w1z3 (g_8 0) (g_8 1))]) hP hD hS hA [3] (by decide +kernel) rfl
                  refine va_callv (va_runV (As := []) (rest := []) ⟨hx₀, hb, hml, hown, hts⟩ (j_gRest l dC dI cI cJ cQ H.size gL w0z3 w1z3 (g_8 0) (g_8 1)) (cwV 0 hts (kGV wd_487 wd_484 wd_485 wd_486 wd_84) rfl rfl rfl (by decide +kernel) ⟨Nat.le_of_ble_eq_true rfl, Nat.le_of_ble_eq_true rfl⟩) (k_preV3 (q0 := 0) hK hPc hDc hN rfl) rfl rfl hl.1 rfl (lv_room (Nat.le_of_ble_eq_true rfl)) dX10_flyGeese_144 ⟨by decide +kernel, by decide +kernel⟩) hS (fun q _ h => hFc q h) hFc (fun u₀ t₀ H1 locs ht hvm hw hB hz1 hk1 hS => ?_)
                  obtain ⟨g_28, ga_29, gl_30, gb_31, gp_32⟩ := u₀
                  obtain ⟨hP1, hK1, hD1⟩ := hB
                  rw [ht] at hP1
                  have hJ := k_jn (wr := [(kX10 aTr aLa aPa aGe gL gR gL gR tgo tca tki tso tbe twe tle tan tco ten), (kX4 aLa vLa l4 a4 n4), (kAI vLa cI 24 f4), (kX3 gR z0z3 z1z3 (g_16 0) (g_16 1))]) (wt := [(kX10 aTr aLa aPa aGe gL gR gL gR tgo tca tki tso tbe twe tle tan tco ten), (kX4 aLa vLa l4 a4 n4), (kAI vLa cI 24 f4), (kX3 gR z0z3 z1z3 (g_16 0) (g_16 1)), (kX3 gL w0z3 w1z3 (g_28 0) (g_8 1))]) hP hD hC [0, 1, 2, 4] rfl (by decide +kernel) (by decide +kernel) hk1 hFc hP1 hD1 rfl
                  clear hP hD hPc hDc hFc hC hP1 hD1 hK1 hz1 hk1 hvm ht
                  obtain ⟨hP, hD⟩ := hJ
                  generalize H1 = H at hP hS ⊢
                  try dsimp only at hw
                  have c_33 := hw
                  refine lv_aload_n hx₀ hb dX10_flyGeese_147 rfl (lv_at hl 2 rfl) ?_
                  refine va_get (D := (dC, dI)) (ci := 9) (v := .ref gR) (C := RX10) (T := TX10) (N := 17) hx₀ hb hts inlX10 hown hK hP 0 rfl rfl 6 (by decide) (hts (.fieldLink RX10 24 "BittenStick$Trip" "right" "LBittenStick$Goose;") wd_88) (fun _ h9 => h9) rfl dX10_flyGeese_148 ?_
                  obtain ⟨hPc, hDc, hFc, hC⟩ := k_cw (wc := [(kX3 gR z0z3 z1z3 (g_16 0) (g_16 1))]) hP hD hS hA [3] (by decide +kernel) rfl
                  refine va_callv (va_runV (As := []) (rest := []) ⟨hx₀, hb, hml, hown, hts⟩ (j_gRest l dC dI cI cJ cQ H.size gR z0z3 z1z3 (g_16 0) (g_16 1)) (cwV 0 hts (kGV wd_487 wd_484 wd_485 wd_486 wd_84) rfl rfl rfl (by decide +kernel) ⟨Nat.le_of_ble_eq_true rfl, Nat.le_of_ble_eq_true rfl⟩) (k_preV3 (q0 := 0) hK hPc hDc hN rfl) rfl rfl hl.1 rfl (lv_room (Nat.le_of_ble_eq_true rfl)) dX10_flyGeese_151 ⟨by decide +kernel, by decide +kernel⟩) hS (fun q _ h => hFc q h) hFc (fun u₀ t₀ H1 locs ht hvm hw hB hz1 hk1 hS => ?_)
                  obtain ⟨g_35, ga_36, gl_37, gb_38, gp_39⟩ := u₀
                  obtain ⟨hP1, hK1, hD1⟩ := hB
                  rw [ht] at hP1
                  have hJ := k_jn (wr := [(kX10 aTr aLa aPa aGe gL gR gL gR tgo tca tki tso tbe twe tle tan tco ten), (kX4 aLa vLa l4 a4 n4), (kAI vLa cI 24 f4), (kX3 gL w0z3 w1z3 (g_28 0) (g_8 1))]) (wt := [(kX10 aTr aLa aPa aGe gL gR gL gR tgo tca tki tso tbe twe tle tan tco ten), (kX4 aLa vLa l4 a4 n4), (kAI vLa cI 24 f4), (kX3 gL w0z3 w1z3 (g_28 0) (g_8 1)), (kX3 gR z0z3 z1z3 (g_35 0) (g_16 1))]) hP hD hC [0, 1, 2, 4] rfl (by decide +kernel) (by decide +kernel) hk1 hFc hP1 hD1 rfl
                  clear hP hD hPc hDc hFc hC hP1 hD1 hK1 hz1 hk1 hvm ht
                  obtain ⟨hP, hD⟩ := hJ
                  generalize H1 = H at hP hS ⊢
                  try dsimp only at hw
                  have c_40 := hw
                  refine lv_iinc (v := iz3 + 1) (lv' := [(3, .int (iz3 + 1)), (4, .int (kAt 24 f4 iz3)), (0, .ref aTr), (1, .int la1), (2, .int ro)]) hx₀ hb dX10_flyGeese_154 hl (k := 1) rfl rfl (by decide) rfl (fun ls hl => ?_)
                  refine lv_goto (tgt := 32) hx₀ hb dX10_flyGeese_157 (by decide) ?_
                  exact ihz3 _ (lf_j_flyGeese_9 la1 iz3 jz3 hh0 hiz3_1 hjz3 c_4 c_26) (iz3 + 1) gL gR w0z3 w1z3 (g_28 0) (g_8 1) z0z3 z1z3 (g_35 0) (g_16 1) _ _ _ (Or.inl ⟨rfl, rfl, kCt_i hkz3 (lf_j_flyGeese_7 la1 iz3 jz3 hh0 hiz3_1 hjz3 c_4 c_26) c_25 c_13 c_14 c_21 c_22 c_23 (Int32.not_lt.mpr c_24) c_33 c_40⟩) (lf_j_flyGeese_8 la1 iz3 jz3 hh0 hiz3_1 hjz3 c_4 c_26) rfl (hP.sub [0, 1, 2, 3, 4] rfl) (hD.sub [0, 1, 2, 3, 4] (by decide +kernel) rfl) hS (lv_sub hl [0, 2, 3, 4] rfl)
                · refine lv_iload_n hx₀ hb dX10_flyGeese_136 rfl (lv_at hl 4 rfl) ?_
                  refine lv_if_eq (tgt := 154) hx₀ hb dX10_flyGeese_137 (by decide) (fun c_41 => ?_) (fun c_41 => ?_)
                  · refine lv_iinc (v := iz3 + 1) (lv' := [(3, .int (iz3 + 1)), (4, .int (kAt 24 f4 iz3)), (0, .ref aTr), (1, .int la1), (2, .int ro)]) hx₀ hb dX10_flyGeese_154 hl (k := 1) rfl rfl (by decide) rfl (fun ls hl => ?_)
                    refine lv_goto (tgt := 32) hx₀ hb dX10_flyGeese_157 (by decide) ?_
                    exact ihz3 _ (lf_j_flyGeese_13 la1 iz3 jz3 hh0 hiz3_1 hjz3 c_4 c_26) (iz3 + 1) gL gR w0z3 w1z3 (g_8 0) (g_8 1) z0z3 z1z3 (g_16 0) (g_16 1) _ _ _ (Or.inl ⟨rfl, rfl, kCt_l hkz3 (lf_j_flyGeese_10 la1 iz3 jz3 hh0 hiz3_1 hjz3 c_4 c_26) c_25 c_13 c_21 c_23 (Int32.not_lt.mpr c_24) (lf_j_flyGeese_11 la1 iz3 jz3 hh0 hiz3_1 hjz3 c_4 c_26)⟩) (lf_j_flyGeese_12 la1 iz3 jz3 hh0 hiz3_1 hjz3 c_4 c_26) rfl (hP.sub [0, 1, 2, 3, 4] rfl) (hD.sub [0, 1, 2, 3, 4] (by decide +kernel) rfl) hS (lv_sub hl [0, 2, 3, 4] rfl)
                  · refine lv_aload_n hx₀ hb dX10_flyGeese_140 rfl (lv_at hl 2 rfl) ?_
                    refine va_get (D := (dC, dI)) (ci := 9) (v := .ref gL) (C := RX10) (T := TX10) (N := 17) hx₀ hb hts inlX10 hown hK hP 0 rfl rfl 5 (by decide) (hts (.fieldLink RX10 21 "BittenStick$Trip" "left" "LBittenStick$Goose;") wd_87) (fun _ h9 => h9) rfl dX10_flyGeese_141 ?_
                    obtain ⟨hPc, hDc, hFc, hC⟩ := k_cw (wc := [(kX3 gL w0z3 w1z3 (g_8 0) (g_8 1))]) hP hD hS hA [3] (by decide +kernel) rfl
                    refine va_callv (va_runV (As := []) (rest := []) ⟨hx₀, hb, hml, hown, hts⟩ (j_gRest l dC dI cI cJ cQ H.size gL w0z3 w1z3 (g_8 0) (g_8 1)) (cwV 0 hts (kGV wd_487 wd_484 wd_485 wd_486 wd_84) rfl rfl rfl (by decide +kernel) ⟨Nat.le_of_ble_eq_true rfl, Nat.le_of_ble_eq_true rfl⟩) (k_preV3 (q0 := 0) hK hPc hDc hN rfl) rfl rfl hl.1 rfl (lv_room (Nat.le_of_ble_eq_true rfl)) dX10_flyGeese_144 ⟨by decide +kernel, by decide +kernel⟩) hS (fun q _ h => hFc q h) hFc (fun u₀ t₀ H1 locs ht hvm hw hB hz1 hk1 hS => ?_)
                    obtain ⟨g_43, ga_44, gl_45, gb_46, gp_47⟩ := u₀
                    obtain ⟨hP1, hK1, hD1⟩ := hB
                    rw [ht] at hP1
                    have hJ := k_jn (wr := [(kX10 aTr aLa aPa aGe gL gR gL gR tgo tca tki tso tbe twe tle tan tco ten), (kX4 aLa vLa l4 a4 n4), (kAI vLa cI 24 f4), (kX3 gR z0z3 z1z3 (g_16 0) (g_16 1))]) (wt := [(kX10 aTr aLa aPa aGe gL gR gL gR tgo tca tki tso tbe twe tle tan tco ten), (kX4 aLa vLa l4 a4 n4), (kAI vLa cI 24 f4), (kX3 gR z0z3 z1z3 (g_16 0) (g_16 1)), (kX3 gL w0z3 w1z3 (g_43 0) (g_8 1))]) hP hD hC [0, 1, 2, 4] rfl (by decide +kernel) (by decide +kernel) hk1 hFc hP1 hD1 rfl
                    clear hP hD hPc hDc hFc hC hP1 hD1 hK1 hz1 hk1 hvm ht
                    obtain ⟨hP, hD⟩ := hJ
                    generalize H1 = H at hP hS ⊢
                    try dsimp only at hw
                    have c_48 := hw
                    refine lv_aload_n hx₀ hb dX10_flyGeese_147 rfl (lv_at hl 2 rfl) ?_
                    refine va_get (D := (dC, dI)) (ci := 9) (v := .ref gR) (C := RX10) (T := TX10) (N := 17) hx₀ hb hts inlX10 hown hK hP 0 rfl rfl 6 (by decide) (hts (.fieldLink RX10 24 "BittenStick$Trip" "right" "LBittenStick$Goose;") wd_88) (fun _ h9 => h9) rfl dX10_flyGeese_148 ?_
                    obtain ⟨hPc, hDc, hFc, hC⟩ := k_cw (wc := [(kX3 gR z0z3 z1z3 (g_16 0) (g_16 1))]) hP hD hS hA [3] (by decide +kernel) rfl
                    refine va_callv (va_runV (As := []) (rest := []) ⟨hx₀, hb, hml, hown, hts⟩ (j_gRest l dC dI cI cJ cQ H.size gR z0z3 z1z3 (g_16 0) (g_16 1)) (cwV 0 hts (kGV wd_487 wd_484 wd_485 wd_486 wd_84) rfl rfl rfl (by decide +kernel) ⟨Nat.le_of_ble_eq_true rfl, Nat.le_of_ble_eq_true rfl⟩) (k_preV3 (q0 := 0) hK hPc hDc hN rfl) rfl rfl hl.1 rfl (lv_room (Nat.le_of_ble_eq_true rfl)) dX10_flyGeese_151 ⟨by decide +kernel, by decide +kernel⟩) hS (fun q _ h => hFc q h) hFc (fun u₀ t₀ H1 locs ht hvm hw hB hz1 hk1 hS => ?_)
                    obtain ⟨g_50, ga_51, gl_52, gb_53, gp_54⟩ := u₀
                    obtain ⟨hP1, hK1, hD1⟩ := hB
                    rw [ht] at hP1
                    have hJ := k_jn (wr := [(kX10 aTr aLa aPa aGe gL gR gL gR tgo tca tki tso tbe twe tle tan tco ten), (kX4 aLa vLa l4 a4 n4), (kAI vLa cI 24 f4), (kX3 gL w0z3 w1z3 (g_43 0) (g_8 1))]) (wt := [(kX10 aTr aLa aPa aGe gL gR gL gR tgo tca tki tso tbe twe tle tan tco ten), (kX4 aLa vLa l4 a4 n4), (kAI vLa cI 24 f4), (kX3 gL w0z3 w1z3 (g_43 0) (g_8 1)), (kX3 gR z0z3 z1z3 (g_50 0) (g_16 1))]) hP hD hC [0, 1, 2, 4] rfl (by decide +kernel) (by decide +kernel) hk1 hFc hP1 hD1 rfl
                    clear hP hD hPc hDc hFc hC hP1 hD1 hK1 hz1 hk1 hvm ht
                    obtain ⟨hP, hD⟩ := hJ
                    generalize H1 = H at hP hS ⊢
                    try dsimp only at hw
                    have c_55 := hw
                    refine lv_iinc (v := iz3 + 1) (lv' := [(3, .int (iz3 + 1)), (4, .int (kAt 24 f4 iz3)), (0, .ref aTr), (1, .int la1), (2, .int ro)]) hx₀ hb dX10_flyGeese_154 hl (k := 1) rfl rfl (by decide) rfl (fun ls hl => ?_)
                    refine lv_goto (tgt := 32) hx₀ hb dX10_flyGeese_157 (by decide) ?_
                    exact ihz3 _ (lf_j_flyGeese_13 la1 iz3 jz3 hh0 hiz3_1 hjz3 c_4 c_26) (iz3 + 1) gL gR w0z3 w1z3 (g_43 0) (g_8 1) z0z3 z1z3 (g_50 0) (g_16 1) _ _ _ (Or.inl ⟨rfl, rfl, kCt_i hkz3 (lf_j_flyGeese_10 la1 iz3 jz3 hh0 hiz3_1 hjz3 c_4 c_26) c_25 c_13 c_14 c_21 c_22 c_23 (Int32.not_lt.mpr c_24) c_48 c_55⟩) (lf_j_flyGeese_12 la1 iz3 jz3 hh0 hiz3_1 hjz3 c_4 c_26) rfl (hP.sub [0, 1, 2, 3, 4] rfl) (hD.sub [0, 1, 2, 3, 4] (by decide +kernel) rfl) hS (lv_sub hl [0, 2, 3, 4] rfl)
            · refine lv_iload_n hx₀ hb dX10_flyGeese_122 rfl (lv_at hl 1 rfl) ?_
              obtain ⟨hP9, hD9⟩ := k_c2 (wc := [(kX10 aTr aLa aPa aGe gL gR gL gR tgo tca tki tso tbe twe tle tan tco ten), (kX3 gL w0z3 w1z3 (g_8 0) (g_8 1)), (kX3 gR z0z3 z1z3 (g_16 0) (g_16 1)), (kX4 aLa vLa l4 a4 n4), (kAI vLa cI 24 f4)]) hP hD [0, 3, 4, 1, 2] (by decide +kernel) rfl
              exact W.iret (v := iz3) hx₀ hb hr (fun t₀ ht hW => ⟨⟨iz3, (k_fn [w0z3, w1z3, (g_8 0), (g_8 1), z0z3, z1z3, (g_16 0), (g_16 1)], k_fa [], k_fl [], k_fL [], k_fp [gL, gR]), rfl, ⟨(kCt_f hkz3 (lf_j_flyGeese_4 la1 iz3 jz3 hh0 hiz3_1 hjz3 c_4) c_6 c_13 c_21 (Or.inr (Int32.not_le.mp c_24))), (show (gL = gL ∧ gR = gR) ∨ (gL = gR ∧ gR = gL) from (Or.inl (⟨rfl, rfl⟩)))⟩, by rw [ht]; exact hP9, va_K.moved hW.alike hK, hD9⟩, hS.F ht⟩) hS.2.2 dX10_flyGeese_123
        · refine lv_aload_n hx₀ hb dX10_flyGeese_54 rfl (lv_at hl 2 rfl) ?_
          refine va_get (D := (dC, dI)) (ci := 9) (v := .ref gL) (C := RX10) (T := TX10) (N := 17) hx₀ hb hts inlX10 hown hK hP 0 rfl rfl 5 (by decide) (hts (.fieldLink RX10 21 "BittenStick$Trip" "left" "LBittenStick$Goose;") wd_87) (fun _ h9 => h9) rfl dX10_flyGeese_55 ?_
          refine lv_astore (lv' := [(5, .ref gL), (4, .int (kAt 24 f4 iz3)), (3, .int iz3), (0, .ref aTr), (1, .int la1), (2, .int ro)]) hx₀ hb dX10_flyGeese_58 hl (by decide) rfl (fun ls hl => ?_)
          refine lv_aload_n hx₀ hb dX10_flyGeese_60 rfl (lv_at hl 3 rfl) ?_
          refine lv_aload_n hx₀ hb dX10_flyGeese_61 rfl (lv_at hl 3 rfl) ?_
          refine va_get (D := (dC, dI)) (ci := 9) (v := .ref gR) (C := RX10) (T := TX10) (N := 17) hx₀ hb hts inlX10 hown hK hP 0 rfl rfl 6 (by decide) (hts (.fieldLink RX10 24 "BittenStick$Trip" "right" "LBittenStick$Goose;") wd_88) (fun _ h9 => h9) rfl dX10_flyGeese_62 ?_
          refine va_put (D := (dC, dI)) (ci := 9) (v := .ref gR) (ty := .object "BittenStick$Goose") (C := RX10) (T := TX10) (N := 17) hx₀ hb hts inlX10 tyX10 tyX10_ok nmX10 hown hK hP hD hS 0 rfl rfl 5 (by decide) (hts (.fieldLink RX10 21 "BittenStick$Trip" "left" "LBittenStick$Goose;") wd_87) (fun _ h9 => h9) rfl (by decide +kernel) rfl rfl (Nat.le_of_ble_eq_true rfl) dX10_flyGeese_65 ?_
          clear hP hD hS
          intro H locs hP hD hS
          replace hP := k_w2 (wt := [(kX10 aTr aLa aPa aGe gL gR gR gR tgo tca tki tso tbe twe tle tan tco ten), (kX3 gL w0z3 w1z3 w2z3 w3z3), (kX3 gR z0z3 z1z3 z2z3 z3z3), (kX4 aLa vLa l4 a4 n4), (kAI vLa cI 24 f4)]) hP hD rfl
          replace hD := hP.2
          replace hP := hP.1
          refine lv_aload_n hx₀ hb dX10_flyGeese_68 rfl (lv_at hl 3 rfl) ?_
          refine lv_aload hx₀ hb dX10_flyGeese_69 (lv_at hl 0 rfl) ?_
          refine va_put (D := (dC, dI)) (ci := 9) (v := .ref gL) (ty := .object "BittenStick$Goose") (C := RX10) (T := TX10) (N := 17) hx₀ hb hts inlX10 tyX10 tyX10_ok nmX10 hown hK hP hD hS 0 rfl rfl 6 (by decide) (hts (.fieldLink RX10 24 "BittenStick$Trip" "right" "LBittenStick$Goose;") wd_88) (fun _ h9 => h9) rfl (by decide +kernel) rfl rfl (Nat.le_of_ble_eq_true rfl) dX10_flyGeese_71 ?_
          clear hP hD hS
          intro H locs hP hD hS
          replace hP := k_w2 (wt := [(kX10 aTr aLa aPa aGe gL gR gR gL tgo tca tki tso tbe twe tle tan tco ten), (kX3 gL w0z3 w1z3 w2z3 w3z3), (kX3 gR z0z3 z1z3 z2z3 z3z3), (kX4 aLa vLa l4 a4 n4), (kAI vLa cI 24 f4)]) hP hD rfl
          replace hD := hP.2
          replace hP := hP.1
          refine lv_aload_n hx₀ hb dX10_flyGeese_74 rfl (lv_at hl 3 rfl) ?_
          refine va_get (D := (dC, dI)) (ci := 9) (v := .ref gR) (C := RX10) (T := TX10) (N := 17) hx₀ hb hts inlX10 hown hK hP 0 rfl rfl 5 (by decide) (hts (.fieldLink RX10 21 "BittenStick$Trip" "left" "LBittenStick$Goose;") wd_87) (fun _ h9 => h9) rfl dX10_flyGeese_75 ?_
          obtain ⟨hPc, hDc, hFc, hC⟩ := k_cw (wc := [(kX3 gR z0z3 z1z3 z2z3 z3z3)]) hP hD hS hA [2] (by decide +kernel) rfl
          refine va_callv (va_runV (As := []) (rest := []) ⟨hx₀, hb, hml, hown, hts⟩ (j_gFly l dC dI cI cJ cQ H.size gR z0z3 z1z3 z2z3 z3z3) (cwV 0 hts (kGV wd_482 wd_479 wd_480 wd_481 wd_84) rfl rfl rfl (by decide +kernel) ⟨Nat.le_of_ble_eq_true rfl, Nat.le_of_ble_eq_true rfl⟩) (k_preV3 (q0 := 0) hK hPc hDc hN rfl) rfl rfl hl.1 rfl (lv_room (Nat.le_of_ble_eq_true rfl)) dX10_flyGeese_78 ⟨by decide +kernel, by decide +kernel⟩) hS (fun q _ h => hFc q h) hFc (fun u₀ t₀ H1 locs ht hvm hw hB hz1 hk1 hS => ?_)
          obtain ⟨g_57, ga_58, gl_59, gb_60, gp_61⟩ := u₀
          obtain ⟨hP1, hK1, hD1⟩ := hB
          rw [ht] at hP1
          have hJ := k_jn (wr := [(kX10 aTr aLa aPa aGe gL gR gR gL tgo tca tki tso tbe twe tle tan tco ten), (kX3 gL w0z3 w1z3 w2z3 w3z3), (kX4 aLa vLa l4 a4 n4), (kAI vLa cI 24 f4)]) (wt := [(kX10 aTr aLa aPa aGe gL gR gR gL tgo tca tki tso tbe twe tle tan tco ten), (kX3 gL w0z3 w1z3 w2z3 w3z3), (kX4 aLa vLa l4 a4 n4), (kAI vLa cI 24 f4), (kX3 gR z0z3 z1z3 (g_57 0) (g_57 1))]) hP hD hC [0, 1, 3, 4] rfl (by decide +kernel) (by decide +kernel) hk1 hFc hP1 hD1 rfl
          clear hP hD hPc hDc hFc hC hP1 hD1 hK1 hz1 hk1 hvm ht
          obtain ⟨hP, hD⟩ := hJ
          generalize H1 = H at hP hS ⊢
          try dsimp only at hw
          obtain ⟨c_62, c_63⟩ := hw
          refine lv_aload_n hx₀ hb dX10_flyGeese_81 rfl (lv_at hl 3 rfl) ?_
          refine va_get (D := (dC, dI)) (ci := 9) (v := .ref gL) (C := RX10) (T := TX10) (N := 17) hx₀ hb hts inlX10 hown hK hP 0 rfl rfl 6 (by decide) (hts (.fieldLink RX10 24 "BittenStick$Trip" "right" "LBittenStick$Goose;") wd_88) (fun _ h9 => h9) rfl dX10_flyGeese_82 ?_
          obtain ⟨hPc, hDc, hFc, hC⟩ := k_cw (wc := [(kX3 gL w0z3 w1z3 w2z3 w3z3)]) hP hD hS hA [1] (by decide +kernel) rfl
          refine va_callv (va_runV (As := []) (rest := []) ⟨hx₀, hb, hml, hown, hts⟩ (j_gFly l dC dI cI cJ cQ H.size gL w0z3 w1z3 w2z3 w3z3) (cwV 0 hts (kGV wd_482 wd_479 wd_480 wd_481 wd_84) rfl rfl rfl (by decide +kernel) ⟨Nat.le_of_ble_eq_true rfl, Nat.le_of_ble_eq_true rfl⟩) (k_preV3 (q0 := 0) hK hPc hDc hN rfl) rfl rfl hl.1 rfl (lv_room (Nat.le_of_ble_eq_true rfl)) dX10_flyGeese_85 ⟨by decide +kernel, by decide +kernel⟩) hS (fun q _ h => hFc q h) hFc (fun u₀ t₀ H1 locs ht hvm hw hB hz1 hk1 hS => ?_)
          obtain ⟨g_65, ga_66, gl_67, gb_68, gp_69⟩ := u₀
          obtain ⟨hP1, hK1, hD1⟩ := hB
          rw [ht] at hP1
          have hJ := k_jn (wr := [(kX10 aTr aLa aPa aGe gL gR gR gL tgo tca tki tso tbe twe tle tan tco ten), (kX4 aLa vLa l4 a4 n4), (kAI vLa cI 24 f4), (kX3 gR z0z3 z1z3 (g_57 0) (g_57 1))]) (wt := [(kX10 aTr aLa aPa aGe gL gR gR gL tgo tca tki tso tbe twe tle tan tco ten), (kX4 aLa vLa l4 a4 n4), (kAI vLa cI 24 f4), (kX3 gR z0z3 z1z3 (g_57 0) (g_57 1)), (kX3 gL w0z3 w1z3 (g_65 0) (g_65 1))]) hP hD hC [0, 2, 3, 4] rfl (by decide +kernel) (by decide +kernel) hk1 hFc hP1 hD1 rfl
          clear hP hD hPc hDc hFc hC hP1 hD1 hK1 hz1 hk1 hvm ht
          obtain ⟨hP, hD⟩ := hJ
          generalize H1 = H at hP hS ⊢
          try dsimp only at hw
          obtain ⟨c_70, c_71⟩ := hw
          refine lv_aload_n hx₀ hb dX10_flyGeese_88 rfl (lv_at hl 3 rfl) ?_
          refine va_get (D := (dC, dI)) (ci := 9) (v := .ref gR) (C := RX10) (T := TX10) (N := 17) hx₀ hb hts inlX10 hown hK hP 0 rfl rfl 5 (by decide) (hts (.fieldLink RX10 21 "BittenStick$Trip" "left" "LBittenStick$Goose;") wd_87) (fun _ h9 => h9) rfl dX10_flyGeese_89 ?_
          refine va_get (D := (dC, dI)) (ci := 3) (v := .int (g_57 0)) (C := RX3) (T := TX3) (N := 4) hx₀ hb hts inlX3 hown hK hP 3 rfl rfl 2 (by decide) (hts (.fieldLink RX10 97 "BittenStick$Goose" "strong" "I") wd_470) (fun _ h9 => h9) rfl dX10_flyGeese_92 ?_
          refine lv_aload_n hx₀ hb dX10_flyGeese_95 rfl (lv_at hl 3 rfl) ?_
          refine va_get (D := (dC, dI)) (ci := 9) (v := .int twe) (C := RX10) (T := TX10) (N := 17) hx₀ hb hts inlX10 hown hK hP 0 rfl rfl 12 (by decide) (hts (.fieldLink RX10 69 "BittenStick$Trip" "weight" "I") wd_458) (fun _ h9 => h9) rfl dX10_flyGeese_96 ?_
          refine lv_iconst (v := 1) hx₀ hb dX10_flyGeese_99 (by decide +kernel) ?_
          refine lv_iadd hx₀ hb dX10_flyGeese_100 ?_
          refine lv_iconst (v := 2) hx₀ hb dX10_flyGeese_101 (by decide +kernel) ?_
          refine lv_idiv hx₀ hb dX10_flyGeese_102 (by decide +kernel) ?_
          refine lv_icmp_lt (tgt := 122) hx₀ hb dX10_flyGeese_103 (by decide) (fun c_72 => ?_) (fun c_72 => ?_)
          · refine lv_iload_n hx₀ hb dX10_flyGeese_122 rfl (lv_at hl 2 rfl) ?_
            obtain ⟨hP9, hD9⟩ := k_c2 (wc := [(kX10 aTr aLa aPa aGe gL gR gR gL tgo tca tki tso tbe twe tle tan tco ten), (kX3 gL w0z3 w1z3 (g_65 0) (g_65 1)), (kX3 gR z0z3 z1z3 (g_57 0) (g_57 1)), (kX4 aLa vLa l4 a4 n4), (kAI vLa cI 24 f4)]) hP hD [0, 4, 3, 1, 2] (by decide +kernel) rfl
            exact W.iret (v := iz3) hx₀ hb hr (fun t₀ ht hW => ⟨⟨iz3, (k_fn [w0z3, w1z3, (g_65 0), (g_65 1), z0z3, z1z3, (g_57 0), (g_57 1)], k_fa [], k_fl [], k_fL [], k_fp [gR, gL]), rfl, ⟨(kCt_fw hkz3 (lf_j_flyGeese_4 la1 iz3 jz3 hh0 hiz3_1 hjz3 c_4) c_6 c_62 c_70 (Or.inl c_72)), (show (gR = gL ∧ gL = gR) ∨ (gR = gR ∧ gL = gL) from (Or.inr (⟨rfl, rfl⟩)))⟩, by rw [ht]; exact hP9, va_K.moved hW.alike hK, hD9⟩, hS.F ht⟩) hS.2.2 dX10_flyGeese_123
          · refine lv_aload_n hx₀ hb dX10_flyGeese_106 rfl (lv_at hl 3 rfl) ?_
            refine va_get (D := (dC, dI)) (ci := 9) (v := .ref gL) (C := RX10) (T := TX10) (N := 17) hx₀ hb hts inlX10 hown hK hP 0 rfl rfl 6 (by decide) (hts (.fieldLink RX10 24 "BittenStick$Trip" "right" "LBittenStick$Goose;") wd_88) (fun _ h9 => h9) rfl dX10_flyGeese_107 ?_
            refine va_get (D := (dC, dI)) (ci := 3) (v := .int (g_65 0)) (C := RX3) (T := TX3) (N := 4) hx₀ hb hts inlX3 hown hK hP 4 rfl rfl 2 (by decide) (hts (.fieldLink RX10 97 "BittenStick$Goose" "strong" "I") wd_470) (fun _ h9 => h9) rfl dX10_flyGeese_110 ?_
            refine lv_aload_n hx₀ hb dX10_flyGeese_113 rfl (lv_at hl 3 rfl) ?_
            refine va_get (D := (dC, dI)) (ci := 9) (v := .int twe) (C := RX10) (T := TX10) (N := 17) hx₀ hb hts inlX10 hown hK hP 0 rfl rfl 12 (by decide) (hts (.fieldLink RX10 69 "BittenStick$Trip" "weight" "I") wd_458) (fun _ h9 => h9) rfl dX10_flyGeese_114 ?_
            refine lv_iconst (v := 2) hx₀ hb dX10_flyGeese_117 (by decide +kernel) ?_
            refine lv_idiv hx₀ hb dX10_flyGeese_118 (by decide +kernel) ?_
            refine lv_icmp_ge (tgt := 124) hx₀ hb dX10_flyGeese_119 (by decide) (fun c_73 => ?_) (fun c_73 => ?_)
            · refine lv_iload hx₀ hb dX10_flyGeese_124 (lv_at hl 1 rfl) ?_
              refine lv_bipush (v := 7) hx₀ hb dX10_flyGeese_126 (by decide +kernel) ?_
              refine lv_icmp_ne (tgt := 154) hx₀ hb dX10_flyGeese_128 (by decide) (fun c_74 => ?_) (fun c_74 => ?_)
              · refine lv_iinc (v := iz3 + 1) (lv' := [(3, .int (iz3 + 1)), (5, .ref gL), (4, .int (kAt 24 f4 iz3)), (0, .ref aTr), (1, .int la1), (2, .int ro)]) hx₀ hb dX10_flyGeese_154 hl (k := 2) rfl rfl (by decide) rfl (fun ls hl => ?_)
                refine lv_goto (tgt := 32) hx₀ hb dX10_flyGeese_157 (by decide) ?_
                exact ihz3 _ (lf_j_flyGeese_6 la1 iz3 jz3 hh0 hiz3_1 hjz3 c_4) (iz3 + 1) gR gL w0z3 w1z3 (g_65 0) (g_65 1) z0z3 z1z3 (g_57 0) (g_57 1) _ _ _ (Or.inr ⟨rfl, rfl, kCt_w hkz3 (lf_j_flyGeese_4 la1 iz3 jz3 hh0 hiz3_1 hjz3 c_4) c_6 c_62 c_63 c_70 c_71 c_72 (Int32.not_lt.mpr c_73)⟩) (lf_j_flyGeese_5 la1 iz3 jz3 hh0 hiz3_1 hjz3 c_4) rfl (hP.sub [0, 1, 2, 4, 3] rfl) (hD.sub [0, 1, 2, 4, 3] (by decide +kernel) rfl) hS (lv_sub hl [0, 3, 4, 5] rfl)
              · refine lv_iload_n hx₀ hb dX10_flyGeese_131 rfl (lv_at hl 2 rfl) ?_
                refine lv_iload_n hx₀ hb dX10_flyGeese_132 rfl (lv_at hl 4 rfl) ?_
                refine lv_icmp_lt (tgt := 140) hx₀ hb dX10_flyGeese_133 (by decide) (fun c_75 => ?_) (fun c_75 => ?_)
                · refine lv_aload_n hx₀ hb dX10_flyGeese_140 rfl (lv_at hl 3 rfl) ?_
                  refine va_get (D := (dC, dI)) (ci := 9) (v := .ref gR) (C := RX10) (T := TX10) (N := 17) hx₀ hb hts inlX10 hown hK hP 0 rfl rfl 5 (by decide) (hts (.fieldLink RX10 21 "BittenStick$Trip" "left" "LBittenStick$Goose;") wd_87) (fun _ h9 => h9) rfl dX10_flyGeese_141 ?_
                  obtain ⟨hPc, hDc, hFc, hC⟩ := k_cw (wc := [(kX3 gR z0z3 z1z3 (g_57 0) (g_57 1))]) hP hD hS hA [3] (by decide +kernel) rfl
                  refine va_callv (va_runV (As := []) (rest := []) ⟨hx₀, hb, hml, hown, hts⟩ (j_gRest l dC dI cI cJ cQ H.size gR z0z3 z1z3 (g_57 0) (g_57 1)) (cwV 0 hts (kGV wd_487 wd_484 wd_485 wd_486 wd_84) rfl rfl rfl (by decide +kernel) ⟨Nat.le_of_ble_eq_true rfl, Nat.le_of_ble_eq_true rfl⟩) (k_preV3 (q0 := 0) hK hPc hDc hN rfl) rfl rfl hl.1 rfl (lv_room (Nat.le_of_ble_eq_true rfl)) dX10_flyGeese_144 ⟨by decide +kernel, by decide +kernel⟩) hS (fun q _ h => hFc q h) hFc (fun u₀ t₀ H1 locs ht hvm hw hB hz1 hk1 hS => ?_)
                  obtain ⟨g_77, ga_78, gl_79, gb_80, gp_81⟩ := u₀
                  obtain ⟨hP1, hK1, hD1⟩ := hB
                  rw [ht] at hP1
                  have hJ := k_jn (wr := [(kX10 aTr aLa aPa aGe gL gR gR gL tgo tca tki tso tbe twe tle tan tco ten), (kX4 aLa vLa l4 a4 n4), (kAI vLa cI 24 f4), (kX3 gL w0z3 w1z3 (g_65 0) (g_65 1))]) (wt := [(kX10 aTr aLa aPa aGe gL gR gR gL tgo tca tki tso tbe twe tle tan tco ten), (kX4 aLa vLa l4 a4 n4), (kAI vLa cI 24 f4), (kX3 gL w0z3 w1z3 (g_65 0) (g_65 1)), (kX3 gR z0z3 z1z3 (g_77 0) (g_57 1))]) hP hD hC [0, 1, 2, 4] rfl (by decide +kernel) (by decide +kernel) hk1 hFc hP1 hD1 rfl
                  clear hP hD hPc hDc hFc hC hP1 hD1 hK1 hz1 hk1 hvm ht
                  obtain ⟨hP, hD⟩ := hJ
                  generalize H1 = H at hP hS ⊢
                  try dsimp only at hw
                  have c_82 := hw
                  refine lv_aload_n hx₀ hb dX10_flyGeese_147 rfl (lv_at hl 3 rfl) ?_
                  refine va_get (D := (dC, dI)) (ci := 9) (v := .ref gL) (C := RX10) (T := TX10) (N := 17) hx₀ hb hts inlX10 hown hK hP 0 rfl rfl 6 (by decide) (hts (.fieldLink RX10 24 "BittenStick$Trip" "right" "LBittenStick$Goose;") wd_88) (fun _ h9 => h9) rfl dX10_flyGeese_148 ?_
                  obtain ⟨hPc, hDc, hFc, hC⟩ := k_cw (wc := [(kX3 gL w0z3 w1z3 (g_65 0) (g_65 1))]) hP hD hS hA [3] (by decide +kernel) rfl
                  refine va_callv (va_runV (As := []) (rest := []) ⟨hx₀, hb, hml, hown, hts⟩ (j_gRest l dC dI cI cJ cQ H.size gL w0z3 w1z3 (g_65 0) (g_65 1)) (cwV 0 hts (kGV wd_487 wd_484 wd_485 wd_486 wd_84) rfl rfl rfl (by decide +kernel) ⟨Nat.le_of_ble_eq_true rfl, Nat.le_of_ble_eq_true rfl⟩) (k_preV3 (q0 := 0) hK hPc hDc hN rfl) rfl rfl hl.1 rfl (lv_room (Nat.le_of_ble_eq_true rfl)) dX10_flyGeese_151 ⟨by decide +kernel, by decide +kernel⟩) hS (fun q _ h => hFc q h) hFc (fun u₀ t₀ H1 locs ht hvm hw hB hz1 hk1 hS => ?_)
                  obtain ⟨g_84, ga_85, gl_86, gb_87, gp_88⟩ := u₀
                  obtain ⟨hP1, hK1, hD1⟩ := hB
                  rw [ht] at hP1
                  have hJ := k_jn (wr := [(kX10 aTr aLa aPa aGe gL gR gR gL tgo tca tki tso tbe twe tle tan tco ten), (kX4 aLa vLa l4 a4 n4), (kAI vLa cI 24 f4), (kX3 gR z0z3 z1z3 (g_77 0) (g_57 1))]) (wt := [(kX10 aTr aLa aPa aGe gL gR gR gL tgo tca tki tso tbe twe tle tan tco ten), (kX4 aLa vLa l4 a4 n4), (kAI vLa cI 24 f4), (kX3 gR z0z3 z1z3 (g_77 0) (g_57 1)), (kX3 gL w0z3 w1z3 (g_84 0) (g_65 1))]) hP hD hC [0, 1, 2, 4] rfl (by decide +kernel) (by decide +kernel) hk1 hFc hP1 hD1 rfl
                  clear hP hD hPc hDc hFc hC hP1 hD1 hK1 hz1 hk1 hvm ht
                  obtain ⟨hP, hD⟩ := hJ
                  generalize H1 = H at hP hS ⊢
                  try dsimp only at hw
                  have c_89 := hw
                  refine lv_iinc (v := iz3 + 1) (lv' := [(3, .int (iz3 + 1)), (5, .ref gL), (4, .int (kAt 24 f4 iz3)), (0, .ref aTr), (1, .int la1), (2, .int ro)]) hx₀ hb dX10_flyGeese_154 hl (k := 2) rfl rfl (by decide) rfl (fun ls hl => ?_)
                  refine lv_goto (tgt := 32) hx₀ hb dX10_flyGeese_157 (by decide) ?_
                  exact ihz3 _ (lf_j_flyGeese_9 la1 iz3 jz3 hh0 hiz3_1 hjz3 c_4 c_75) (iz3 + 1) gR gL w0z3 w1z3 (g_84 0) (g_65 1) z0z3 z1z3 (g_77 0) (g_57 1) _ _ _ (absurd (c_6.symm.trans c_74) (by decide)) (lf_j_flyGeese_8 la1 iz3 jz3 hh0 hiz3_1 hjz3 c_4 c_75) rfl (hP.sub [0, 1, 2, 4, 3] rfl) (hD.sub [0, 1, 2, 4, 3] (by decide +kernel) rfl) hS (lv_sub hl [0, 3, 4, 5] rfl)
                · refine lv_iload_n hx₀ hb dX10_flyGeese_136 rfl (lv_at hl 5 rfl) ?_
                  refine lv_if_eq (tgt := 154) hx₀ hb dX10_flyGeese_137 (by decide) (fun c_90 => ?_) (fun c_90 => ?_)
                  · refine lv_iinc (v := iz3 + 1) (lv' := [(3, .int (iz3 + 1)), (5, .ref gL), (4, .int (kAt 24 f4 iz3)), (0, .ref aTr), (1, .int la1), (2, .int ro)]) hx₀ hb dX10_flyGeese_154 hl (k := 2) rfl rfl (by decide) rfl (fun ls hl => ?_)
                    refine lv_goto (tgt := 32) hx₀ hb dX10_flyGeese_157 (by decide) ?_
                    exact ihz3 _ (lf_j_flyGeese_13 la1 iz3 jz3 hh0 hiz3_1 hjz3 c_4 c_75) (iz3 + 1) gR gL w0z3 w1z3 (g_65 0) (g_65 1) z0z3 z1z3 (g_57 0) (g_57 1) _ _ _ (absurd (c_6.symm.trans c_74) (by decide)) (lf_j_flyGeese_12 la1 iz3 jz3 hh0 hiz3_1 hjz3 c_4 c_75) rfl (hP.sub [0, 1, 2, 4, 3] rfl) (hD.sub [0, 1, 2, 4, 3] (by decide +kernel) rfl) hS (lv_sub hl [0, 3, 4, 5] rfl)
                  · refine lv_aload_n hx₀ hb dX10_flyGeese_140 rfl (lv_at hl 3 rfl) ?_
                    refine va_get (D := (dC, dI)) (ci := 9) (v := .ref gR) (C := RX10) (T := TX10) (N := 17) hx₀ hb hts inlX10 hown hK hP 0 rfl rfl 5 (by decide) (hts (.fieldLink RX10 21 "BittenStick$Trip" "left" "LBittenStick$Goose;") wd_87) (fun _ h9 => h9) rfl dX10_flyGeese_141 ?_
                    obtain ⟨hPc, hDc, hFc, hC⟩ := k_cw (wc := [(kX3 gR z0z3 z1z3 (g_57 0) (g_57 1))]) hP hD hS hA [3] (by decide +kernel) rfl
                    refine va_callv (va_runV (As := []) (rest := []) ⟨hx₀, hb, hml, hown, hts⟩ (j_gRest l dC dI cI cJ cQ H.size gR z0z3 z1z3 (g_57 0) (g_57 1)) (cwV 0 hts (kGV wd_487 wd_484 wd_485 wd_486 wd_84) rfl rfl rfl (by decide +kernel) ⟨Nat.le_of_ble_eq_true rfl, Nat.le_of_ble_eq_true rfl⟩) (k_preV3 (q0 := 0) hK hPc hDc hN rfl) rfl rfl hl.1 rfl (lv_room (Nat.le_of_ble_eq_true rfl)) dX10_flyGeese_144 ⟨by decide +kernel, by decide +kernel⟩) hS (fun q _ h => hFc q h) hFc (fun u₀ t₀ H1 locs ht hvm hw hB hz1 hk1 hS => ?_)
                    obtain ⟨g_92, ga_93, gl_94, gb_95, gp_96⟩ := u₀
                    obtain ⟨hP1, hK1, hD1⟩ := hB
                    rw [ht] at hP1
                    have hJ := k_jn (wr := [(kX10 aTr aLa aPa aGe gL gR gR gL tgo tca tki tso tbe twe tle tan tco ten), (kX4 aLa vLa l4 a4 n4), (kAI vLa cI 24 f4), (kX3 gL w0z3 w1z3 (g_65 0) (g_65 1))]) (wt := [(kX10 aTr aLa aPa aGe gL gR gR gL tgo tca tki tso tbe twe tle tan tco ten), (kX4 aLa vLa l4 a4 n4), (kAI vLa cI 24 f4), (kX3 gL w0z3 w1z3 (g_65 0) (g_65 1)), (kX3 gR z0z3 z1z3 (g_92 0) (g_57 1))]) hP hD hC [0, 1, 2, 4] rfl (by decide +kernel) (by decide +kernel) hk1 hFc hP1 hD1 rfl
                    clear hP hD hPc hDc hFc hC hP1 hD1 hK1 hz1 hk1 hvm ht
                    obtain ⟨hP, hD⟩ := hJ
                    generalize H1 = H at hP hS ⊢
                    try dsimp only at hw
                    have c_97 := hw
                    refine lv_aload_n hx₀ hb dX10_flyGeese_147 rfl (lv_at hl 3 rfl) ?_
                    refine va_get (D := (dC, dI)) (ci := 9) (v := .ref gL) (C := RX10) (T := TX10) (N := 17) hx₀ hb hts inlX10 hown hK hP 0 rfl rfl 6 (by decide) (hts (.fieldLink RX10 24 "BittenStick$Trip" "right" "LBittenStick$Goose;") wd_88) (fun _ h9 => h9) rfl dX10_flyGeese_148 ?_
                    obtain ⟨hPc, hDc, hFc, hC⟩ := k_cw (wc := [(kX3 gL w0z3 w1z3 (g_65 0) (g_65 1))]) hP hD hS hA [3] (by decide +kernel) rfl
                    refine va_callv (va_runV (As := []) (rest := []) ⟨hx₀, hb, hml, hown, hts⟩ (j_gRest l dC dI cI cJ cQ H.size gL w0z3 w1z3 (g_65 0) (g_65 1)) (cwV 0 hts (kGV wd_487 wd_484 wd_485 wd_486 wd_84) rfl rfl rfl (by decide +kernel) ⟨Nat.le_of_ble_eq_true rfl, Nat.le_of_ble_eq_true rfl⟩) (k_preV3 (q0 := 0) hK hPc hDc hN rfl) rfl rfl hl.1 rfl (lv_room (Nat.le_of_ble_eq_true rfl)) dX10_flyGeese_151 ⟨by decide +kernel, by decide +kernel⟩) hS (fun q _ h => hFc q h) hFc (fun u₀ t₀ H1 locs ht hvm hw hB hz1 hk1 hS => ?_)
                    obtain ⟨g_99, ga_100, gl_101, gb_102, gp_103⟩ := u₀
                    obtain ⟨hP1, hK1, hD1⟩ := hB
                    rw [ht] at hP1
                    have hJ := k_jn (wr := [(kX10 aTr aLa aPa aGe gL gR gR gL tgo tca tki tso tbe twe tle tan tco ten), (kX4 aLa vLa l4 a4 n4), (kAI vLa cI 24 f4), (kX3 gR z0z3 z1z3 (g_92 0) (g_57 1))]) (wt := [(kX10 aTr aLa aPa aGe gL gR gR gL tgo tca tki tso tbe twe tle tan tco ten), (kX4 aLa vLa l4 a4 n4), (kAI vLa cI 24 f4), (kX3 gR z0z3 z1z3 (g_92 0) (g_57 1)), (kX3 gL w0z3 w1z3 (g_99 0) (g_65 1))]) hP hD hC [0, 1, 2, 4] rfl (by decide +kernel) (by decide +kernel) hk1 hFc hP1 hD1 rfl
                    clear hP hD hPc hDc hFc hC hP1 hD1 hK1 hz1 hk1 hvm ht
                    obtain ⟨hP, hD⟩ := hJ
                    generalize H1 = H at hP hS ⊢
                    try dsimp only at hw
                    have c_104 := hw
                    refine lv_iinc (v := iz3 + 1) (lv' := [(3, .int (iz3 + 1)), (5, .ref gL), (4, .int (kAt 24 f4 iz3)), (0, .ref aTr), (1, .int la1), (2, .int ro)]) hx₀ hb dX10_flyGeese_154 hl (k := 2) rfl rfl (by decide) rfl (fun ls hl => ?_)
                    refine lv_goto (tgt := 32) hx₀ hb dX10_flyGeese_157 (by decide) ?_
                    exact ihz3 _ (lf_j_flyGeese_13 la1 iz3 jz3 hh0 hiz3_1 hjz3 c_4 c_75) (iz3 + 1) gR gL w0z3 w1z3 (g_99 0) (g_65 1) z0z3 z1z3 (g_92 0) (g_57 1) _ _ _ (absurd (c_6.symm.trans c_74) (by decide)) (lf_j_flyGeese_12 la1 iz3 jz3 hh0 hiz3_1 hjz3 c_4 c_75) rfl (hP.sub [0, 1, 2, 4, 3] rfl) (hD.sub [0, 1, 2, 4, 3] (by decide +kernel) rfl) hS (lv_sub hl [0, 3, 4, 5] rfl)
            · refine lv_iload_n hx₀ hb dX10_flyGeese_122 rfl (lv_at hl 2 rfl) ?_
              obtain ⟨hP9, hD9⟩ := k_c2 (wc := [(kX10 aTr aLa aPa aGe gL gR gR gL tgo tca tki tso tbe twe tle tan tco ten), (kX3 gL w0z3 w1z3 (g_65 0) (g_65 1)), (kX3 gR z0z3 z1z3 (g_57 0) (g_57 1)), (kX4 aLa vLa l4 a4 n4), (kAI vLa cI 24 f4)]) hP hD [0, 4, 3, 1, 2] (by decide +kernel) rfl
              exact W.iret (v := iz3) hx₀ hb hr (fun t₀ ht hW => ⟨⟨iz3, (k_fn [w0z3, w1z3, (g_65 0), (g_65 1), z0z3, z1z3, (g_57 0), (g_57 1)], k_fa [], k_fl [], k_fL [], k_fp [gR, gL]), rfl, ⟨(kCt_fw hkz3 (lf_j_flyGeese_4 la1 iz3 jz3 hh0 hiz3_1 hjz3 c_4) c_6 c_62 c_70 (Or.inr (Int32.not_le.mp c_73))), (show (gR = gL ∧ gL = gR) ∨ (gR = gR ∧ gL = gL) from (Or.inr (⟨rfl, rfl⟩)))⟩, by rw [ht]; exact hP9, va_K.moved hW.alike hK, hD9⟩, hS.F ht⟩) hS.2.2 dX10_flyGeese_123
    · refine lv_iload_n hx₀ hb dX10_flyGeese_32 rfl (lv_at hl 0 rfl) ?_
      refine lv_iload_n hx₀ hb dX10_flyGeese_33 rfl (lv_at hl 2 rfl) ?_
      refine lv_icmp_gt (tgt := 160) hx₀ hb dX10_flyGeese_34 (by decide) (fun c_105 => ?_) (fun c_105 => ?_)
      · refine lv_iload_n hx₀ hb dX10_flyGeese_160 rfl (lv_at hl 2 rfl) ?_
        refine lv_iconst (v := 1) hx₀ hb dX10_flyGeese_161 (by decide +kernel) ?_
        refine lv_iadd hx₀ hb dX10_flyGeese_162 ?_
        obtain ⟨hP9, hD9⟩ := k_c2 (wc := [(kX10 aTr aLa aPa aGe gL gR gR gL tgo tca tki tso tbe twe tle tan tco ten), (kX3 gL w0z3 w1z3 w2z3 w3z3), (kX3 gR z0z3 z1z3 z2z3 z3z3), (kX4 aLa vLa l4 a4 n4), (kAI vLa cI 24 f4)]) hP hD [0, 3, 4, 1, 2] (by decide +kernel) rfl
        exact W.iret (v := la1 + 1) hx₀ hb hr (fun t₀ ht hW => ⟨⟨la1 + 1, (k_fn [w0z3, w1z3, w2z3, w3z3, z0z3, z1z3, z2z3, z3z3], k_fa [], k_fl [], k_fL [], k_fp [gR, gL]), rfl, ⟨(kCt_end hkz3 (lf_j_flyGeese_2 la1 iz3 jz3 hh0 hiz3_1 hjz3 c_105) (lf_j_flyGeese_3 la1 iz3 jz3 hh0 hiz3_1 hjz3 c_105)), (show (gR = gL ∧ gL = gR) ∨ (gR = gR ∧ gL = gL) from (Or.inr (⟨rfl, rfl⟩)))⟩, by rw [ht]; exact hP9, va_K.moved hW.alike hK, hD9⟩, hS.F ht⟩) hS.2.2 dX10_flyGeese_163
      · refine lv_aload_n hx₀ hb dX10_flyGeese_37 rfl (lv_at hl 1 rfl) ?_
        refine va_get (D := (dC, dI)) (ci := 9) (v := .ref aLa) (C := RX10) (T := TX10) (N := 17) hx₀ hb hts inlX10 hown hK hP 0 rfl rfl 0 (by decide) (hts (.fieldLink RX10 27 "BittenStick$Trip" "land" "LBittenStick$Land;") wd_89) (fun _ h9 => h9) rfl dX10_flyGeese_38 ?_
        refine lv_iload_n hx₀ hb dX10_flyGeese_41 rfl (lv_at hl 0 rfl) ?_
        obtain ⟨hPc, hDc, hFc, hC⟩ := k_cw (wc := [(kX4 aLa vLa l4 a4 n4), (kAI vLa cI 24 f4)]) hP hD hS hA [1, 2] (by decide +kernel) rfl
        refine va_calli (va_runU (As := [.int iz3]) (rest := []) ⟨hx₀, hb, hml, hown, hts⟩ (j_valueAt_X4 l dC dI cI cJ cQ H.size aLa iz3 vLa l4 a4 n4 f4) (va_cwU 1 hts (kGU wd_179 wd_478 wd_288 wd_289 wd_178 wd_57) rfl rfl rfl rfl (by decide +kernel) ⟨Nat.le_of_ble_eq_true rfl, Nat.le_of_ble_eq_true rfl⟩) (k_preV4 (q0 := 0) hK hPc hDc hN rfl) rfl rfl hl.1 rfl (lv_room (Nat.le_of_ble_eq_true rfl)) dX10_flyGeese_42 ⟨by decide +kernel, by decide +kernel⟩) hS (fun q _ h => hFc q h) hFc (fun r_106 u₀ t₀ H1 locs ht hvm hw hB hz1 hk1 hS => ?_)
        obtain ⟨hP1, hK1, hD1⟩ := hB
        rw [ht] at hP1
        have hJ := k_jn (wr := [(kX10 aTr aLa aPa aGe gL gR gR gL tgo tca tki tso tbe twe tle tan tco ten), (kX3 gL w0z3 w1z3 w2z3 w3z3), (kX3 gR z0z3 z1z3 z2z3 z3z3)]) (wt := [(kX10 aTr aLa aPa aGe gL gR gR gL tgo tca tki tso tbe twe tle tan tco ten), (kX3 gL w0z3 w1z3 w2z3 w3z3), (kX3 gR z0z3 z1z3 z2z3 z3z3), (kX4 aLa vLa l4 a4 n4), (kAI vLa cI 24 f4)]) hP hD hC [0, 3, 4] rfl (by decide +kernel) (by decide +kernel) hk1 hFc hP1 hD1 rfl
        clear hP hD hPc hDc hFc hC hP1 hD1 hK1 hz1 hk1 hvm ht
        obtain ⟨hP, hD⟩ := hJ
        generalize H1 = H at hP hS ⊢
        try dsimp only at hw
        refine k_topi (v := kAt 24 f4 iz3) hw ?_
        refine lv_istore (lv' := [(4, .int (kAt 24 f4 iz3)), (3, .int iz3), (0, .ref aTr), (1, .int la1), (2, .int ro)]) hx₀ hb dX10_flyGeese_45 hl (by decide) rfl (fun ls hl => ?_)
        refine lv_iload hx₀ hb dX10_flyGeese_47 (lv_at hl 0 rfl) ?_
        refine lv_bipush (v := 8) hx₀ hb dX10_flyGeese_49 (by decide +kernel) ?_
        refine lv_icmp_ne (tgt := 74) hx₀ hb dX10_flyGeese_51 (by decide) (fun c_107 => ?_) (fun c_107 => ?_)
        · refine lv_aload_n hx₀ hb dX10_flyGeese_74 rfl (lv_at hl 2 rfl) ?_
          refine va_get (D := (dC, dI)) (ci := 9) (v := .ref gR) (C := RX10) (T := TX10) (N := 17) hx₀ hb hts inlX10 hown hK hP 0 rfl rfl 5 (by decide) (hts (.fieldLink RX10 21 "BittenStick$Trip" "left" "LBittenStick$Goose;") wd_87) (fun _ h9 => h9) rfl dX10_flyGeese_75 ?_
          obtain ⟨hPc, hDc, hFc, hC⟩ := k_cw (wc := [(kX3 gR z0z3 z1z3 z2z3 z3z3)]) hP hD hS hA [2] (by decide +kernel) rfl
          refine va_callv (va_runV (As := []) (rest := []) ⟨hx₀, hb, hml, hown, hts⟩ (j_gFly l dC dI cI cJ cQ H.size gR z0z3 z1z3 z2z3 z3z3) (cwV 0 hts (kGV wd_482 wd_479 wd_480 wd_481 wd_84) rfl rfl rfl (by decide +kernel) ⟨Nat.le_of_ble_eq_true rfl, Nat.le_of_ble_eq_true rfl⟩) (k_preV3 (q0 := 0) hK hPc hDc hN rfl) rfl rfl hl.1 rfl (lv_room (Nat.le_of_ble_eq_true rfl)) dX10_flyGeese_78 ⟨by decide +kernel, by decide +kernel⟩) hS (fun q _ h => hFc q h) hFc (fun u₀ t₀ H1 locs ht hvm hw hB hz1 hk1 hS => ?_)
          obtain ⟨g_109, ga_110, gl_111, gb_112, gp_113⟩ := u₀
          obtain ⟨hP1, hK1, hD1⟩ := hB
          rw [ht] at hP1
          have hJ := k_jn (wr := [(kX10 aTr aLa aPa aGe gL gR gR gL tgo tca tki tso tbe twe tle tan tco ten), (kX3 gL w0z3 w1z3 w2z3 w3z3), (kX4 aLa vLa l4 a4 n4), (kAI vLa cI 24 f4)]) (wt := [(kX10 aTr aLa aPa aGe gL gR gR gL tgo tca tki tso tbe twe tle tan tco ten), (kX3 gL w0z3 w1z3 w2z3 w3z3), (kX4 aLa vLa l4 a4 n4), (kAI vLa cI 24 f4), (kX3 gR z0z3 z1z3 (g_109 0) (g_109 1))]) hP hD hC [0, 1, 3, 4] rfl (by decide +kernel) (by decide +kernel) hk1 hFc hP1 hD1 rfl
          clear hP hD hPc hDc hFc hC hP1 hD1 hK1 hz1 hk1 hvm ht
          obtain ⟨hP, hD⟩ := hJ
          generalize H1 = H at hP hS ⊢
          try dsimp only at hw
          obtain ⟨c_114, c_115⟩ := hw
          refine lv_aload_n hx₀ hb dX10_flyGeese_81 rfl (lv_at hl 2 rfl) ?_
          refine va_get (D := (dC, dI)) (ci := 9) (v := .ref gL) (C := RX10) (T := TX10) (N := 17) hx₀ hb hts inlX10 hown hK hP 0 rfl rfl 6 (by decide) (hts (.fieldLink RX10 24 "BittenStick$Trip" "right" "LBittenStick$Goose;") wd_88) (fun _ h9 => h9) rfl dX10_flyGeese_82 ?_
          obtain ⟨hPc, hDc, hFc, hC⟩ := k_cw (wc := [(kX3 gL w0z3 w1z3 w2z3 w3z3)]) hP hD hS hA [1] (by decide +kernel) rfl
          refine va_callv (va_runV (As := []) (rest := []) ⟨hx₀, hb, hml, hown, hts⟩ (j_gFly l dC dI cI cJ cQ H.size gL w0z3 w1z3 w2z3 w3z3) (cwV 0 hts (kGV wd_482 wd_479 wd_480 wd_481 wd_84) rfl rfl rfl (by decide +kernel) ⟨Nat.le_of_ble_eq_true rfl, Nat.le_of_ble_eq_true rfl⟩) (k_preV3 (q0 := 0) hK hPc hDc hN rfl) rfl rfl hl.1 rfl (lv_room (Nat.le_of_ble_eq_true rfl)) dX10_flyGeese_85 ⟨by decide +kernel, by decide +kernel⟩) hS (fun q _ h => hFc q h) hFc (fun u₀ t₀ H1 locs ht hvm hw hB hz1 hk1 hS => ?_)
          obtain ⟨g_117, ga_118, gl_119, gb_120, gp_121⟩ := u₀
          obtain ⟨hP1, hK1, hD1⟩ := hB
          rw [ht] at hP1
          have hJ := k_jn (wr := [(kX10 aTr aLa aPa aGe gL gR gR gL tgo tca tki tso tbe twe tle tan tco ten), (kX4 aLa vLa l4 a4 n4), (kAI vLa cI 24 f4), (kX3 gR z0z3 z1z3 (g_109 0) (g_109 1))]) (wt := [(kX10 aTr aLa aPa aGe gL gR gR gL tgo tca tki tso tbe twe tle tan tco ten), (kX4 aLa vLa l4 a4 n4), (kAI vLa cI 24 f4), (kX3 gR z0z3 z1z3 (g_109 0) (g_109 1)), (kX3 gL w0z3 w1z3 (g_117 0) (g_117 1))]) hP hD hC [0, 2, 3, 4] rfl (by decide +kernel) (by decide +kernel) hk1 hFc hP1 hD1 rfl
          clear hP hD hPc hDc hFc hC hP1 hD1 hK1 hz1 hk1 hvm ht
          obtain ⟨hP, hD⟩ := hJ
          generalize H1 = H at hP hS ⊢
          try dsimp only at hw
          obtain ⟨c_122, c_123⟩ := hw
          refine lv_aload_n hx₀ hb dX10_flyGeese_88 rfl (lv_at hl 2 rfl) ?_
          refine va_get (D := (dC, dI)) (ci := 9) (v := .ref gR) (C := RX10) (T := TX10) (N := 17) hx₀ hb hts inlX10 hown hK hP 0 rfl rfl 5 (by decide) (hts (.fieldLink RX10 21 "BittenStick$Trip" "left" "LBittenStick$Goose;") wd_87) (fun _ h9 => h9) rfl dX10_flyGeese_89 ?_
          refine va_get (D := (dC, dI)) (ci := 3) (v := .int (g_109 0)) (C := RX3) (T := TX3) (N := 4) hx₀ hb hts inlX3 hown hK hP 3 rfl rfl 2 (by decide) (hts (.fieldLink RX10 97 "BittenStick$Goose" "strong" "I") wd_470) (fun _ h9 => h9) rfl dX10_flyGeese_92 ?_
          refine lv_aload_n hx₀ hb dX10_flyGeese_95 rfl (lv_at hl 2 rfl) ?_
          refine va_get (D := (dC, dI)) (ci := 9) (v := .int twe) (C := RX10) (T := TX10) (N := 17) hx₀ hb hts inlX10 hown hK hP 0 rfl rfl 12 (by decide) (hts (.fieldLink RX10 69 "BittenStick$Trip" "weight" "I") wd_458) (fun _ h9 => h9) rfl dX10_flyGeese_96 ?_
          refine lv_iconst (v := 1) hx₀ hb dX10_flyGeese_99 (by decide +kernel) ?_
          refine lv_iadd hx₀ hb dX10_flyGeese_100 ?_
          refine lv_iconst (v := 2) hx₀ hb dX10_flyGeese_101 (by decide +kernel) ?_
          refine lv_idiv hx₀ hb dX10_flyGeese_102 (by decide +kernel) ?_
          refine lv_icmp_lt (tgt := 122) hx₀ hb dX10_flyGeese_103 (by decide) (fun c_124 => ?_) (fun c_124 => ?_)
          · refine lv_iload_n hx₀ hb dX10_flyGeese_122 rfl (lv_at hl 1 rfl) ?_
            obtain ⟨hP9, hD9⟩ := k_c2 (wc := [(kX10 aTr aLa aPa aGe gL gR gR gL tgo tca tki tso tbe twe tle tan tco ten), (kX3 gL w0z3 w1z3 (g_117 0) (g_117 1)), (kX3 gR z0z3 z1z3 (g_109 0) (g_109 1)), (kX4 aLa vLa l4 a4 n4), (kAI vLa cI 24 f4)]) hP hD [0, 4, 3, 1, 2] (by decide +kernel) rfl
            exact W.iret (v := iz3) hx₀ hb hr (fun t₀ ht hW => ⟨⟨iz3, (k_fn [w0z3, w1z3, (g_117 0), (g_117 1), z0z3, z1z3, (g_109 0), (g_109 1)], k_fa [], k_fl [], k_fL [], k_fp [gR, gL]), rfl, ⟨(kCt_f hkz3 (lf_j_flyGeese_4 la1 iz3 jz3 hh0 hiz3_1 hjz3 c_105) c_107 c_114 c_122 (Or.inl c_124)), (show (gR = gL ∧ gL = gR) ∨ (gR = gR ∧ gL = gL) from (Or.inr (⟨rfl, rfl⟩)))⟩, by rw [ht]; exact hP9, va_K.moved hW.alike hK, hD9⟩, hS.F ht⟩) hS.2.2 dX10_flyGeese_123
          · refine lv_aload_n hx₀ hb dX10_flyGeese_106 rfl (lv_at hl 2 rfl) ?_
            refine va_get (D := (dC, dI)) (ci := 9) (v := .ref gL) (C := RX10) (T := TX10) (N := 17) hx₀ hb hts inlX10 hown hK hP 0 rfl rfl 6 (by decide) (hts (.fieldLink RX10 24 "BittenStick$Trip" "right" "LBittenStick$Goose;") wd_88) (fun _ h9 => h9) rfl dX10_flyGeese_107 ?_
            refine va_get (D := (dC, dI)) (ci := 3) (v := .int (g_117 0)) (C := RX3) (T := TX3) (N := 4) hx₀ hb hts inlX3 hown hK hP 4 rfl rfl 2 (by decide) (hts (.fieldLink RX10 97 "BittenStick$Goose" "strong" "I") wd_470) (fun _ h9 => h9) rfl dX10_flyGeese_110 ?_
            refine lv_aload_n hx₀ hb dX10_flyGeese_113 rfl (lv_at hl 2 rfl) ?_
            refine va_get (D := (dC, dI)) (ci := 9) (v := .int twe) (C := RX10) (T := TX10) (N := 17) hx₀ hb hts inlX10 hown hK hP 0 rfl rfl 12 (by decide) (hts (.fieldLink RX10 69 "BittenStick$Trip" "weight" "I") wd_458) (fun _ h9 => h9) rfl dX10_flyGeese_114 ?_
            refine lv_iconst (v := 2) hx₀ hb dX10_flyGeese_117 (by decide +kernel) ?_
            refine lv_idiv hx₀ hb dX10_flyGeese_118 (by decide +kernel) ?_
            refine lv_icmp_ge (tgt := 124) hx₀ hb dX10_flyGeese_119 (by decide) (fun c_125 => ?_) (fun c_125 => ?_)
            · refine lv_iload hx₀ hb dX10_flyGeese_124 (lv_at hl 0 rfl) ?_
              refine lv_bipush (v := 7) hx₀ hb dX10_flyGeese_126 (by decide +kernel) ?_
              refine lv_icmp_ne (tgt := 154) hx₀ hb dX10_flyGeese_128 (by decide) (fun c_126 => ?_) (fun c_126 => ?_)
              · refine lv_iinc (v := iz3 + 1) (lv' := [(3, .int (iz3 + 1)), (4, .int (kAt 24 f4 iz3)), (0, .ref aTr), (1, .int la1), (2, .int ro)]) hx₀ hb dX10_flyGeese_154 hl (k := 1) rfl rfl (by decide) rfl (fun ls hl => ?_)
                refine lv_goto (tgt := 32) hx₀ hb dX10_flyGeese_157 (by decide) ?_
                exact ihz3 _ (lf_j_flyGeese_6 la1 iz3 jz3 hh0 hiz3_1 hjz3 c_105) (iz3 + 1) gR gL w0z3 w1z3 (g_117 0) (g_117 1) z0z3 z1z3 (g_109 0) (g_109 1) _ _ _ (Or.inr ⟨rfl, rfl, kCt_o hkz3 (lf_j_flyGeese_4 la1 iz3 jz3 hh0 hiz3_1 hjz3 c_105) c_107 c_126 c_114 c_115 c_122 c_123 c_124 (Int32.not_lt.mpr c_125)⟩) (lf_j_flyGeese_5 la1 iz3 jz3 hh0 hiz3_1 hjz3 c_105) rfl (hP.sub [0, 1, 2, 4, 3] rfl) (hD.sub [0, 1, 2, 4, 3] (by decide +kernel) rfl) hS (lv_sub hl [0, 2, 3, 4] rfl)
              · refine lv_iload_n hx₀ hb dX10_flyGeese_131 rfl (lv_at hl 1 rfl) ?_
                refine lv_iload_n hx₀ hb dX10_flyGeese_132 rfl (lv_at hl 3 rfl) ?_
                refine lv_icmp_lt (tgt := 140) hx₀ hb dX10_flyGeese_133 (by decide) (fun c_127 => ?_) (fun c_127 => ?_)
                · refine lv_aload_n hx₀ hb dX10_flyGeese_140 rfl (lv_at hl 2 rfl) ?_
                  refine va_get (D := (dC, dI)) (ci := 9) (v := .ref gR) (C := RX10) (T := TX10) (N := 17) hx₀ hb hts inlX10 hown hK hP 0 rfl rfl 5 (by decide) (hts (.fieldLink RX10 21 "BittenStick$Trip" "left" "LBittenStick$Goose;") wd_87) (fun _ h9 => h9) rfl dX10_flyGeese_141 ?_
                  obtain ⟨hPc, hDc, hFc, hC⟩ := k_cw (wc := [(kX3 gR z0z3 z1z3 (g_109 0) (g_109 1))]) hP hD hS hA [3] (by decide +kernel) rfl
                  refine va_callv (va_runV (As := []) (rest := []) ⟨hx₀, hb, hml, hown, hts⟩ (j_gRest l dC dI cI cJ cQ H.size gR z0z3 z1z3 (g_109 0) (g_109 1)) (cwV 0 hts (kGV wd_487 wd_484 wd_485 wd_486 wd_84) rfl rfl rfl (by decide +kernel) ⟨Nat.le_of_ble_eq_true rfl, Nat.le_of_ble_eq_true rfl⟩) (k_preV3 (q0 := 0) hK hPc hDc hN rfl) rfl rfl hl.1 rfl (lv_room (Nat.le_of_ble_eq_true rfl)) dX10_flyGeese_144 ⟨by decide +kernel, by decide +kernel⟩) hS (fun q _ h => hFc q h) hFc (fun u₀ t₀ H1 locs ht hvm hw hB hz1 hk1 hS => ?_)
                  obtain ⟨g_129, ga_130, gl_131, gb_132, gp_133⟩ := u₀
                  obtain ⟨hP1, hK1, hD1⟩ := hB
                  rw [ht] at hP1
                  have hJ := k_jn (wr := [(kX10 aTr aLa aPa aGe gL gR gR gL tgo tca tki tso tbe twe tle tan tco ten), (kX4 aLa vLa l4 a4 n4), (kAI vLa cI 24 f4), (kX3 gL w0z3 w1z3 (g_117 0) (g_117 1))]) (wt := [(kX10 aTr aLa aPa aGe gL gR gR gL tgo tca tki tso tbe twe tle tan tco ten), (kX4 aLa vLa l4 a4 n4), (kAI vLa cI 24 f4), (kX3 gL w0z3 w1z3 (g_117 0) (g_117 1)), (kX3 gR z0z3 z1z3 (g_129 0) (g_109 1))]) hP hD hC [0, 1, 2, 4] rfl (by decide +kernel) (by decide +kernel) hk1 hFc hP1 hD1 rfl
                  clear hP hD hPc hDc hFc hC hP1 hD1 hK1 hz1 hk1 hvm ht
                  obtain ⟨hP, hD⟩ := hJ
                  generalize H1 = H at hP hS ⊢
                  try dsimp only at hw
                  have c_134 := hw
                  refine lv_aload_n hx₀ hb dX10_flyGeese_147 rfl (lv_at hl 2 rfl) ?_
                  refine va_get (D := (dC, dI)) (ci := 9) (v := .ref gL) (C := RX10) (T := TX10) (N := 17) hx₀ hb hts inlX10 hown hK hP 0 rfl rfl 6 (by decide) (hts (.fieldLink RX10 24 "BittenStick$Trip" "right" "LBittenStick$Goose;") wd_88) (fun _ h9 => h9) rfl dX10_flyGeese_148 ?_
                  obtain ⟨hPc, hDc, hFc, hC⟩ := k_cw (wc := [(kX3 gL w0z3 w1z3 (g_117 0) (g_117 1))]) hP hD hS hA [3] (by decide +kernel) rfl
                  refine va_callv (va_runV (As := []) (rest := []) ⟨hx₀, hb, hml, hown, hts⟩ (j_gRest l dC dI cI cJ cQ H.size gL w0z3 w1z3 (g_117 0) (g_117 1)) (cwV 0 hts (kGV wd_487 wd_484 wd_485 wd_486 wd_84) rfl rfl rfl (by decide +kernel) ⟨Nat.le_of_ble_eq_true rfl, Nat.le_of_ble_eq_true rfl⟩) (k_preV3 (q0 := 0) hK hPc hDc hN rfl) rfl rfl hl.1 rfl (lv_room (Nat.le_of_ble_eq_true rfl)) dX10_flyGeese_151 ⟨by decide +kernel, by decide +kernel⟩) hS (fun q _ h => hFc q h) hFc (fun u₀ t₀ H1 locs ht hvm hw hB hz1 hk1 hS => ?_)
                  obtain ⟨g_136, ga_137, gl_138, gb_139, gp_140⟩ := u₀
                  obtain ⟨hP1, hK1, hD1⟩ := hB
                  rw [ht] at hP1
                  have hJ := k_jn (wr := [(kX10 aTr aLa aPa aGe gL gR gR gL tgo tca tki tso tbe twe tle tan tco ten), (kX4 aLa vLa l4 a4 n4), (kAI vLa cI 24 f4), (kX3 gR z0z3 z1z3 (g_129 0) (g_109 1))]) (wt := [(kX10 aTr aLa aPa aGe gL gR gR gL tgo tca tki tso tbe twe tle tan tco ten), (kX4 aLa vLa l4 a4 n4), (kAI vLa cI 24 f4), (kX3 gR z0z3 z1z3 (g_129 0) (g_109 1)), (kX3 gL w0z3 w1z3 (g_136 0) (g_117 1))]) hP hD hC [0, 1, 2, 4] rfl (by decide +kernel) (by decide +kernel) hk1 hFc hP1 hD1 rfl
                  clear hP hD hPc hDc hFc hC hP1 hD1 hK1 hz1 hk1 hvm ht
                  obtain ⟨hP, hD⟩ := hJ
                  generalize H1 = H at hP hS ⊢
                  try dsimp only at hw
                  have c_141 := hw
                  refine lv_iinc (v := iz3 + 1) (lv' := [(3, .int (iz3 + 1)), (4, .int (kAt 24 f4 iz3)), (0, .ref aTr), (1, .int la1), (2, .int ro)]) hx₀ hb dX10_flyGeese_154 hl (k := 1) rfl rfl (by decide) rfl (fun ls hl => ?_)
                  refine lv_goto (tgt := 32) hx₀ hb dX10_flyGeese_157 (by decide) ?_
                  exact ihz3 _ (lf_j_flyGeese_9 la1 iz3 jz3 hh0 hiz3_1 hjz3 c_105 c_127) (iz3 + 1) gR gL w0z3 w1z3 (g_136 0) (g_117 1) z0z3 z1z3 (g_129 0) (g_109 1) _ _ _ (Or.inr ⟨rfl, rfl, kCt_i hkz3 (lf_j_flyGeese_7 la1 iz3 jz3 hh0 hiz3_1 hjz3 c_105 c_127) c_126 c_114 c_115 c_122 c_123 c_124 (Int32.not_lt.mpr c_125) c_134 c_141⟩) (lf_j_flyGeese_8 la1 iz3 jz3 hh0 hiz3_1 hjz3 c_105 c_127) rfl (hP.sub [0, 1, 2, 4, 3] rfl) (hD.sub [0, 1, 2, 4, 3] (by decide +kernel) rfl) hS (lv_sub hl [0, 2, 3, 4] rfl)
                · refine lv_iload_n hx₀ hb dX10_flyGeese_136 rfl (lv_at hl 4 rfl) ?_
                  refine lv_if_eq (tgt := 154) hx₀ hb dX10_flyGeese_137 (by decide) (fun c_142 => ?_) (fun c_142 => ?_)
                  · refine lv_iinc (v := iz3 + 1) (lv' := [(3, .int (iz3 + 1)), (4, .int (kAt 24 f4 iz3)), (0, .ref aTr), (1, .int la1), (2, .int ro)]) hx₀ hb dX10_flyGeese_154 hl (k := 1) rfl rfl (by decide) rfl (fun ls hl => ?_)
                    refine lv_goto (tgt := 32) hx₀ hb dX10_flyGeese_157 (by decide) ?_
                    exact ihz3 _ (lf_j_flyGeese_13 la1 iz3 jz3 hh0 hiz3_1 hjz3 c_105 c_127) (iz3 + 1) gR gL w0z3 w1z3 (g_117 0) (g_117 1) z0z3 z1z3 (g_109 0) (g_109 1) _ _ _ (Or.inr ⟨rfl, rfl, kCt_l hkz3 (lf_j_flyGeese_10 la1 iz3 jz3 hh0 hiz3_1 hjz3 c_105 c_127) c_126 c_114 c_122 c_124 (Int32.not_lt.mpr c_125) (lf_j_flyGeese_11 la1 iz3 jz3 hh0 hiz3_1 hjz3 c_105 c_127)⟩) (lf_j_flyGeese_12 la1 iz3 jz3 hh0 hiz3_1 hjz3 c_105 c_127) rfl (hP.sub [0, 1, 2, 4, 3] rfl) (hD.sub [0, 1, 2, 4, 3] (by decide +kernel) rfl) hS (lv_sub hl [0, 2, 3, 4] rfl)
                  · refine lv_aload_n hx₀ hb dX10_flyGeese_140 rfl (lv_at hl 2 rfl) ?_
                    refine va_get (D := (dC, dI)) (ci := 9) (v := .ref gR) (C := RX10) (T := TX10) (N := 17) hx₀ hb hts inlX10 hown hK hP 0 rfl rfl 5 (by decide) (hts (.fieldLink RX10 21 "BittenStick$Trip" "left" "LBittenStick$Goose;") wd_87) (fun _ h9 => h9) rfl dX10_flyGeese_141 ?_
                    obtain ⟨hPc, hDc, hFc, hC⟩ := k_cw (wc := [(kX3 gR z0z3 z1z3 (g_109 0) (g_109 1))]) hP hD hS hA [3] (by decide +kernel) rfl
                    refine va_callv (va_runV (As := []) (rest := []) ⟨hx₀, hb, hml, hown, hts⟩ (j_gRest l dC dI cI cJ cQ H.size gR z0z3 z1z3 (g_109 0) (g_109 1)) (cwV 0 hts (kGV wd_487 wd_484 wd_485 wd_486 wd_84) rfl rfl rfl (by decide +kernel) ⟨Nat.le_of_ble_eq_true rfl, Nat.le_of_ble_eq_true rfl⟩) (k_preV3 (q0 := 0) hK hPc hDc hN rfl) rfl rfl hl.1 rfl (lv_room (Nat.le_of_ble_eq_true rfl)) dX10_flyGeese_144 ⟨by decide +kernel, by decide +kernel⟩) hS (fun q _ h => hFc q h) hFc (fun u₀ t₀ H1 locs ht hvm hw hB hz1 hk1 hS => ?_)
                    obtain ⟨g_144, ga_145, gl_146, gb_147, gp_148⟩ := u₀
                    obtain ⟨hP1, hK1, hD1⟩ := hB
                    rw [ht] at hP1
                    have hJ := k_jn (wr := [(kX10 aTr aLa aPa aGe gL gR gR gL tgo tca tki tso tbe twe tle tan tco ten), (kX4 aLa vLa l4 a4 n4), (kAI vLa cI 24 f4), (kX3 gL w0z3 w1z3 (g_117 0) (g_117 1))]) (wt := [(kX10 aTr aLa aPa aGe gL gR gR gL tgo tca tki tso tbe twe tle tan tco ten), (kX4 aLa vLa l4 a4 n4), (kAI vLa cI 24 f4), (kX3 gL w0z3 w1z3 (g_117 0) (g_117 1)), (kX3 gR z0z3 z1z3 (g_144 0) (g_109 1))]) hP hD hC [0, 1, 2, 4] rfl (by decide +kernel) (by decide +kernel) hk1 hFc hP1 hD1 rfl
                    clear hP hD hPc hDc hFc hC hP1 hD1 hK1 hz1 hk1 hvm ht
                    obtain ⟨hP, hD⟩ := hJ
                    generalize H1 = H at hP hS ⊢
                    try dsimp only at hw
                    have c_149 := hw
                    refine lv_aload_n hx₀ hb dX10_flyGeese_147 rfl (lv_at hl 2 rfl) ?_
                    refine va_get (D := (dC, dI)) (ci := 9) (v := .ref gL) (C := RX10) (T := TX10) (N := 17) hx₀ hb hts inlX10 hown hK hP 0 rfl rfl 6 (by decide) (hts (.fieldLink RX10 24 "BittenStick$Trip" "right" "LBittenStick$Goose;") wd_88) (fun _ h9 => h9) rfl dX10_flyGeese_148 ?_
                    obtain ⟨hPc, hDc, hFc, hC⟩ := k_cw (wc := [(kX3 gL w0z3 w1z3 (g_117 0) (g_117 1))]) hP hD hS hA [3] (by decide +kernel) rfl
                    refine va_callv (va_runV (As := []) (rest := []) ⟨hx₀, hb, hml, hown, hts⟩ (j_gRest l dC dI cI cJ cQ H.size gL w0z3 w1z3 (g_117 0) (g_117 1)) (cwV 0 hts (kGV wd_487 wd_484 wd_485 wd_486 wd_84) rfl rfl rfl (by decide +kernel) ⟨Nat.le_of_ble_eq_true rfl, Nat.le_of_ble_eq_true rfl⟩) (k_preV3 (q0 := 0) hK hPc hDc hN rfl) rfl rfl hl.1 rfl (lv_room (Nat.le_of_ble_eq_true rfl)) dX10_flyGeese_151 ⟨by decide +kernel, by decide +kernel⟩) hS (fun q _ h => hFc q h) hFc (fun u₀ t₀ H1 locs ht hvm hw hB hz1 hk1 hS => ?_)
                    obtain ⟨g_151, ga_152, gl_153, gb_154, gp_155⟩ := u₀
                    obtain ⟨hP1, hK1, hD1⟩ := hB
                    rw [ht] at hP1
                    have hJ := k_jn (wr := [(kX10 aTr aLa aPa aGe gL gR gR gL tgo tca tki tso tbe twe tle tan tco ten), (kX4 aLa vLa l4 a4 n4), (kAI vLa cI 24 f4), (kX3 gR z0z3 z1z3 (g_144 0) (g_109 1))]) (wt := [(kX10 aTr aLa aPa aGe gL gR gR gL tgo tca tki tso tbe twe tle tan tco ten), (kX4 aLa vLa l4 a4 n4), (kAI vLa cI 24 f4), (kX3 gR z0z3 z1z3 (g_144 0) (g_109 1)), (kX3 gL w0z3 w1z3 (g_151 0) (g_117 1))]) hP hD hC [0, 1, 2, 4] rfl (by decide +kernel) (by decide +kernel) hk1 hFc hP1 hD1 rfl
                    clear hP hD hPc hDc hFc hC hP1 hD1 hK1 hz1 hk1 hvm ht
                    obtain ⟨hP, hD⟩ := hJ
                    generalize H1 = H at hP hS ⊢
                    try dsimp only at hw
                    have c_156 := hw
                    refine lv_iinc (v := iz3 + 1) (lv' := [(3, .int (iz3 + 1)), (4, .int (kAt 24 f4 iz3)), (0, .ref aTr), (1, .int la1), (2, .int ro)]) hx₀ hb dX10_flyGeese_154 hl (k := 1) rfl rfl (by decide) rfl (fun ls hl => ?_)
                    refine lv_goto (tgt := 32) hx₀ hb dX10_flyGeese_157 (by decide) ?_
                    exact ihz3 _ (lf_j_flyGeese_13 la1 iz3 jz3 hh0 hiz3_1 hjz3 c_105 c_127) (iz3 + 1) gR gL w0z3 w1z3 (g_151 0) (g_117 1) z0z3 z1z3 (g_144 0) (g_109 1) _ _ _ (Or.inr ⟨rfl, rfl, kCt_i hkz3 (lf_j_flyGeese_10 la1 iz3 jz3 hh0 hiz3_1 hjz3 c_105 c_127) c_126 c_114 c_115 c_122 c_123 c_124 (Int32.not_lt.mpr c_125) c_149 c_156⟩) (lf_j_flyGeese_12 la1 iz3 jz3 hh0 hiz3_1 hjz3 c_105 c_127) rfl (hP.sub [0, 1, 2, 4, 3] rfl) (hD.sub [0, 1, 2, 4, 3] (by decide +kernel) rfl) hS (lv_sub hl [0, 2, 3, 4] rfl)
            · refine lv_iload_n hx₀ hb dX10_flyGeese_122 rfl (lv_at hl 1 rfl) ?_
              obtain ⟨hP9, hD9⟩ := k_c2 (wc := [(kX10 aTr aLa aPa aGe gL gR gR gL tgo tca tki tso tbe twe tle tan tco ten), (kX3 gL w0z3 w1z3 (g_117 0) (g_117 1)), (kX3 gR z0z3 z1z3 (g_109 0) (g_109 1)), (kX4 aLa vLa l4 a4 n4), (kAI vLa cI 24 f4)]) hP hD [0, 4, 3, 1, 2] (by decide +kernel) rfl
              exact W.iret (v := iz3) hx₀ hb hr (fun t₀ ht hW => ⟨⟨iz3, (k_fn [w0z3, w1z3, (g_117 0), (g_117 1), z0z3, z1z3, (g_109 0), (g_109 1)], k_fa [], k_fl [], k_fL [], k_fp [gR, gL]), rfl, ⟨(kCt_f hkz3 (lf_j_flyGeese_4 la1 iz3 jz3 hh0 hiz3_1 hjz3 c_105) c_107 c_114 c_122 (Or.inr (Int32.not_le.mp c_125))), (show (gR = gL ∧ gL = gR) ∨ (gR = gR ∧ gL = gL) from (Or.inr (⟨rfl, rfl⟩)))⟩, by rw [ht]; exact hP9, va_K.moved hW.alike hK, hD9⟩, hS.F ht⟩) hS.2.2 dX10_flyGeese_123
        · refine lv_aload_n hx₀ hb dX10_flyGeese_54 rfl (lv_at hl 2 rfl) ?_
          refine va_get (D := (dC, dI)) (ci := 9) (v := .ref gR) (C := RX10) (T := TX10) (N := 17) hx₀ hb hts inlX10 hown hK hP 0 rfl rfl 5 (by decide) (hts (.fieldLink RX10 21 "BittenStick$Trip" "left" "LBittenStick$Goose;") wd_87) (fun _ h9 => h9) rfl dX10_flyGeese_55 ?_
          refine lv_astore (lv' := [(5, .ref gR), (4, .int (kAt 24 f4 iz3)), (3, .int iz3), (0, .ref aTr), (1, .int la1), (2, .int ro)]) hx₀ hb dX10_flyGeese_58 hl (by decide) rfl (fun ls hl => ?_)
          refine lv_aload_n hx₀ hb dX10_flyGeese_60 rfl (lv_at hl 3 rfl) ?_
          refine lv_aload_n hx₀ hb dX10_flyGeese_61 rfl (lv_at hl 3 rfl) ?_
          refine va_get (D := (dC, dI)) (ci := 9) (v := .ref gL) (C := RX10) (T := TX10) (N := 17) hx₀ hb hts inlX10 hown hK hP 0 rfl rfl 6 (by decide) (hts (.fieldLink RX10 24 "BittenStick$Trip" "right" "LBittenStick$Goose;") wd_88) (fun _ h9 => h9) rfl dX10_flyGeese_62 ?_
          refine va_put (D := (dC, dI)) (ci := 9) (v := .ref gL) (ty := .object "BittenStick$Goose") (C := RX10) (T := TX10) (N := 17) hx₀ hb hts inlX10 tyX10 tyX10_ok nmX10 hown hK hP hD hS 0 rfl rfl 5 (by decide) (hts (.fieldLink RX10 21 "BittenStick$Trip" "left" "LBittenStick$Goose;") wd_87) (fun _ h9 => h9) rfl (by decide +kernel) rfl rfl (Nat.le_of_ble_eq_true rfl) dX10_flyGeese_65 ?_
          clear hP hD hS
          intro H locs hP hD hS
          replace hP := k_w2 (wt := [(kX10 aTr aLa aPa aGe gL gR gL gL tgo tca tki tso tbe twe tle tan tco ten), (kX3 gL w0z3 w1z3 w2z3 w3z3), (kX3 gR z0z3 z1z3 z2z3 z3z3), (kX4 aLa vLa l4 a4 n4), (kAI vLa cI 24 f4)]) hP hD rfl
          replace hD := hP.2
          replace hP := hP.1
          refine lv_aload_n hx₀ hb dX10_flyGeese_68 rfl (lv_at hl 3 rfl) ?_
          refine lv_aload hx₀ hb dX10_flyGeese_69 (lv_at hl 0 rfl) ?_
          refine va_put (D := (dC, dI)) (ci := 9) (v := .ref gR) (ty := .object "BittenStick$Goose") (C := RX10) (T := TX10) (N := 17) hx₀ hb hts inlX10 tyX10 tyX10_ok nmX10 hown hK hP hD hS 0 rfl rfl 6 (by decide) (hts (.fieldLink RX10 24 "BittenStick$Trip" "right" "LBittenStick$Goose;") wd_88) (fun _ h9 => h9) rfl (by decide +kernel) rfl rfl (Nat.le_of_ble_eq_true rfl) dX10_flyGeese_71 ?_
          clear hP hD hS
          intro H locs hP hD hS
          replace hP := k_w2 (wt := [(kX10 aTr aLa aPa aGe gL gR gL gR tgo tca tki tso tbe twe tle tan tco ten), (kX3 gL w0z3 w1z3 w2z3 w3z3), (kX3 gR z0z3 z1z3 z2z3 z3z3), (kX4 aLa vLa l4 a4 n4), (kAI vLa cI 24 f4)]) hP hD rfl
          replace hD := hP.2
          replace hP := hP.1
          refine lv_aload_n hx₀ hb dX10_flyGeese_74 rfl (lv_at hl 3 rfl) ?_
          refine va_get (D := (dC, dI)) (ci := 9) (v := .ref gL) (C := RX10) (T := TX10) (N := 17) hx₀ hb hts inlX10 hown hK hP 0 rfl rfl 5 (by decide) (hts (.fieldLink RX10 21 "BittenStick$Trip" "left" "LBittenStick$Goose;") wd_87) (fun _ h9 => h9) rfl dX10_flyGeese_75 ?_
          obtain ⟨hPc, hDc, hFc, hC⟩ := k_cw (wc := [(kX3 gL w0z3 w1z3 w2z3 w3z3)]) hP hD hS hA [1] (by decide +kernel) rfl
          refine va_callv (va_runV (As := []) (rest := []) ⟨hx₀, hb, hml, hown, hts⟩ (j_gFly l dC dI cI cJ cQ H.size gL w0z3 w1z3 w2z3 w3z3) (cwV 0 hts (kGV wd_482 wd_479 wd_480 wd_481 wd_84) rfl rfl rfl (by decide +kernel) ⟨Nat.le_of_ble_eq_true rfl, Nat.le_of_ble_eq_true rfl⟩) (k_preV3 (q0 := 0) hK hPc hDc hN rfl) rfl rfl hl.1 rfl (lv_room (Nat.le_of_ble_eq_true rfl)) dX10_flyGeese_78 ⟨by decide +kernel, by decide +kernel⟩) hS (fun q _ h => hFc q h) hFc (fun u₀ t₀ H1 locs ht hvm hw hB hz1 hk1 hS => ?_)
          obtain ⟨g_158, ga_159, gl_160, gb_161, gp_162⟩ := u₀
          obtain ⟨hP1, hK1, hD1⟩ := hB
          rw [ht] at hP1
          have hJ := k_jn (wr := [(kX10 aTr aLa aPa aGe gL gR gL gR tgo tca tki tso tbe twe tle tan tco ten), (kX3 gR z0z3 z1z3 z2z3 z3z3), (kX4 aLa vLa l4 a4 n4), (kAI vLa cI 24 f4)]) (wt := [(kX10 aTr aLa aPa aGe gL gR gL gR tgo tca tki tso tbe twe tle tan tco ten), (kX3 gR z0z3 z1z3 z2z3 z3z3), (kX4 aLa vLa l4 a4 n4), (kAI vLa cI 24 f4), (kX3 gL w0z3 w1z3 (g_158 0) (g_158 1))]) hP hD hC [0, 2, 3, 4] rfl (by decide +kernel) (by decide +kernel) hk1 hFc hP1 hD1 rfl
          clear hP hD hPc hDc hFc hC hP1 hD1 hK1 hz1 hk1 hvm ht
          obtain ⟨hP, hD⟩ := hJ
          generalize H1 = H at hP hS ⊢
          try dsimp only at hw
          obtain ⟨c_163, c_164⟩ := hw
          refine lv_aload_n hx₀ hb dX10_flyGeese_81 rfl (lv_at hl 3 rfl) ?_
          refine va_get (D := (dC, dI)) (ci := 9) (v := .ref gR) (C := RX10) (T := TX10) (N := 17) hx₀ hb hts inlX10 hown hK hP 0 rfl rfl 6 (by decide) (hts (.fieldLink RX10 24 "BittenStick$Trip" "right" "LBittenStick$Goose;") wd_88) (fun _ h9 => h9) rfl dX10_flyGeese_82 ?_
          obtain ⟨hPc, hDc, hFc, hC⟩ := k_cw (wc := [(kX3 gR z0z3 z1z3 z2z3 z3z3)]) hP hD hS hA [1] (by decide +kernel) rfl
          refine va_callv (va_runV (As := []) (rest := []) ⟨hx₀, hb, hml, hown, hts⟩ (j_gFly l dC dI cI cJ cQ H.size gR z0z3 z1z3 z2z3 z3z3) (cwV 0 hts (kGV wd_482 wd_479 wd_480 wd_481 wd_84) rfl rfl rfl (by decide +kernel) ⟨Nat.le_of_ble_eq_true rfl, Nat.le_of_ble_eq_true rfl⟩) (k_preV3 (q0 := 0) hK hPc hDc hN rfl) rfl rfl hl.1 rfl (lv_room (Nat.le_of_ble_eq_true rfl)) dX10_flyGeese_85 ⟨by decide +kernel, by decide +kernel⟩) hS (fun q _ h => hFc q h) hFc (fun u₀ t₀ H1 locs ht hvm hw hB hz1 hk1 hS => ?_)
          obtain ⟨g_166, ga_167, gl_168, gb_169, gp_170⟩ := u₀
          obtain ⟨hP1, hK1, hD1⟩ := hB
          rw [ht] at hP1
          have hJ := k_jn (wr := [(kX10 aTr aLa aPa aGe gL gR gL gR tgo tca tki tso tbe twe tle tan tco ten), (kX4 aLa vLa l4 a4 n4), (kAI vLa cI 24 f4), (kX3 gL w0z3 w1z3 (g_158 0) (g_158 1))]) (wt := [(kX10 aTr aLa aPa aGe gL gR gL gR tgo tca tki tso tbe twe tle tan tco ten), (kX4 aLa vLa l4 a4 n4), (kAI vLa cI 24 f4), (kX3 gL w0z3 w1z3 (g_158 0) (g_158 1)), (kX3 gR z0z3 z1z3 (g_166 0) (g_166 1))]) hP hD hC [0, 2, 3, 4] rfl (by decide +kernel) (by decide +kernel) hk1 hFc hP1 hD1 rfl
          clear hP hD hPc hDc hFc hC hP1 hD1 hK1 hz1 hk1 hvm ht
          obtain ⟨hP, hD⟩ := hJ
          generalize H1 = H at hP hS ⊢
          try dsimp only at hw
          obtain ⟨c_171, c_172⟩ := hw
          refine lv_aload_n hx₀ hb dX10_flyGeese_88 rfl (lv_at hl 3 rfl) ?_
          refine va_get (D := (dC, dI)) (ci := 9) (v := .ref gL) (C := RX10) (T := TX10) (N := 17) hx₀ hb hts inlX10 hown hK hP 0 rfl rfl 5 (by decide) (hts (.fieldLink RX10 21 "BittenStick$Trip" "left" "LBittenStick$Goose;") wd_87) (fun _ h9 => h9) rfl dX10_flyGeese_89 ?_
          refine va_get (D := (dC, dI)) (ci := 3) (v := .int (g_158 0)) (C := RX3) (T := TX3) (N := 4) hx₀ hb hts inlX3 hown hK hP 3 rfl rfl 2 (by decide) (hts (.fieldLink RX10 97 "BittenStick$Goose" "strong" "I") wd_470) (fun _ h9 => h9) rfl dX10_flyGeese_92 ?_
          refine lv_aload_n hx₀ hb dX10_flyGeese_95 rfl (lv_at hl 3 rfl) ?_
          refine va_get (D := (dC, dI)) (ci := 9) (v := .int twe) (C := RX10) (T := TX10) (N := 17) hx₀ hb hts inlX10 hown hK hP 0 rfl rfl 12 (by decide) (hts (.fieldLink RX10 69 "BittenStick$Trip" "weight" "I") wd_458) (fun _ h9 => h9) rfl dX10_flyGeese_96 ?_
          refine lv_iconst (v := 1) hx₀ hb dX10_flyGeese_99 (by decide +kernel) ?_
          refine lv_iadd hx₀ hb dX10_flyGeese_100 ?_
          refine lv_iconst (v := 2) hx₀ hb dX10_flyGeese_101 (by decide +kernel) ?_
          refine lv_idiv hx₀ hb dX10_flyGeese_102 (by decide +kernel) ?_
          refine lv_icmp_lt (tgt := 122) hx₀ hb dX10_flyGeese_103 (by decide) (fun c_173 => ?_) (fun c_173 => ?_)
          · refine lv_iload_n hx₀ hb dX10_flyGeese_122 rfl (lv_at hl 2 rfl) ?_
            obtain ⟨hP9, hD9⟩ := k_c2 (wc := [(kX10 aTr aLa aPa aGe gL gR gL gR tgo tca tki tso tbe twe tle tan tco ten), (kX3 gL w0z3 w1z3 (g_158 0) (g_158 1)), (kX3 gR z0z3 z1z3 (g_166 0) (g_166 1)), (kX4 aLa vLa l4 a4 n4), (kAI vLa cI 24 f4)]) hP hD [0, 3, 4, 1, 2] (by decide +kernel) rfl
            exact W.iret (v := iz3) hx₀ hb hr (fun t₀ ht hW => ⟨⟨iz3, (k_fn [w0z3, w1z3, (g_158 0), (g_158 1), z0z3, z1z3, (g_166 0), (g_166 1)], k_fa [], k_fl [], k_fL [], k_fp [gL, gR]), rfl, ⟨(kCt_fw hkz3 (lf_j_flyGeese_4 la1 iz3 jz3 hh0 hiz3_1 hjz3 c_105) c_107 c_163 c_171 (Or.inl c_173)), (show (gL = gL ∧ gR = gR) ∨ (gL = gR ∧ gR = gL) from (Or.inl (⟨rfl, rfl⟩)))⟩, by rw [ht]; exact hP9, va_K.moved hW.alike hK, hD9⟩, hS.F ht⟩) hS.2.2 dX10_flyGeese_123
          · refine lv_aload_n hx₀ hb dX10_flyGeese_106 rfl (lv_at hl 3 rfl) ?_
            refine va_get (D := (dC, dI)) (ci := 9) (v := .ref gR) (C := RX10) (T := TX10) (N := 17) hx₀ hb hts inlX10 hown hK hP 0 rfl rfl 6 (by decide) (hts (.fieldLink RX10 24 "BittenStick$Trip" "right" "LBittenStick$Goose;") wd_88) (fun _ h9 => h9) rfl dX10_flyGeese_107 ?_
            refine va_get (D := (dC, dI)) (ci := 3) (v := .int (g_166 0)) (C := RX3) (T := TX3) (N := 4) hx₀ hb hts inlX3 hown hK hP 4 rfl rfl 2 (by decide) (hts (.fieldLink RX10 97 "BittenStick$Goose" "strong" "I") wd_470) (fun _ h9 => h9) rfl dX10_flyGeese_110 ?_
            refine lv_aload_n hx₀ hb dX10_flyGeese_113 rfl (lv_at hl 3 rfl) ?_
            refine va_get (D := (dC, dI)) (ci := 9) (v := .int twe) (C := RX10) (T := TX10) (N := 17) hx₀ hb hts inlX10 hown hK hP 0 rfl rfl 12 (by decide) (hts (.fieldLink RX10 69 "BittenStick$Trip" "weight" "I") wd_458) (fun _ h9 => h9) rfl dX10_flyGeese_114 ?_
            refine lv_iconst (v := 2) hx₀ hb dX10_flyGeese_117 (by decide +kernel) ?_
            refine lv_idiv hx₀ hb dX10_flyGeese_118 (by decide +kernel) ?_
            refine lv_icmp_ge (tgt := 124) hx₀ hb dX10_flyGeese_119 (by decide) (fun c_174 => ?_) (fun c_174 => ?_)
            · refine lv_iload hx₀ hb dX10_flyGeese_124 (lv_at hl 1 rfl) ?_
              refine lv_bipush (v := 7) hx₀ hb dX10_flyGeese_126 (by decide +kernel) ?_
              refine lv_icmp_ne (tgt := 154) hx₀ hb dX10_flyGeese_128 (by decide) (fun c_175 => ?_) (fun c_175 => ?_)
              · refine lv_iinc (v := iz3 + 1) (lv' := [(3, .int (iz3 + 1)), (5, .ref gR), (4, .int (kAt 24 f4 iz3)), (0, .ref aTr), (1, .int la1), (2, .int ro)]) hx₀ hb dX10_flyGeese_154 hl (k := 2) rfl rfl (by decide) rfl (fun ls hl => ?_)
                refine lv_goto (tgt := 32) hx₀ hb dX10_flyGeese_157 (by decide) ?_
                exact ihz3 _ (lf_j_flyGeese_6 la1 iz3 jz3 hh0 hiz3_1 hjz3 c_105) (iz3 + 1) gL gR w0z3 w1z3 (g_158 0) (g_158 1) z0z3 z1z3 (g_166 0) (g_166 1) _ _ _ (Or.inl ⟨rfl, rfl, kCt_w hkz3 (lf_j_flyGeese_4 la1 iz3 jz3 hh0 hiz3_1 hjz3 c_105) c_107 c_163 c_164 c_171 c_172 c_173 (Int32.not_lt.mpr c_174)⟩) (lf_j_flyGeese_5 la1 iz3 jz3 hh0 hiz3_1 hjz3 c_105) rfl (hP.sub [0, 1, 2, 3, 4] rfl) (hD.sub [0, 1, 2, 3, 4] (by decide +kernel) rfl) hS (lv_sub hl [0, 3, 4, 5] rfl)
              · refine lv_iload_n hx₀ hb dX10_flyGeese_131 rfl (lv_at hl 2 rfl) ?_
                refine lv_iload_n hx₀ hb dX10_flyGeese_132 rfl (lv_at hl 4 rfl) ?_
                refine lv_icmp_lt (tgt := 140) hx₀ hb dX10_flyGeese_133 (by decide) (fun c_176 => ?_) (fun c_176 => ?_)
                · refine lv_aload_n hx₀ hb dX10_flyGeese_140 rfl (lv_at hl 3 rfl) ?_
                  refine va_get (D := (dC, dI)) (ci := 9) (v := .ref gL) (C := RX10) (T := TX10) (N := 17) hx₀ hb hts inlX10 hown hK hP 0 rfl rfl 5 (by decide) (hts (.fieldLink RX10 21 "BittenStick$Trip" "left" "LBittenStick$Goose;") wd_87) (fun _ h9 => h9) rfl dX10_flyGeese_141 ?_
                  obtain ⟨hPc, hDc, hFc, hC⟩ := k_cw (wc := [(kX3 gL w0z3 w1z3 (g_158 0) (g_158 1))]) hP hD hS hA [3] (by decide +kernel) rfl
                  refine va_callv (va_runV (As := []) (rest := []) ⟨hx₀, hb, hml, hown, hts⟩ (j_gRest l dC dI cI cJ cQ H.size gL w0z3 w1z3 (g_158 0) (g_158 1)) (cwV 0 hts (kGV wd_487 wd_484 wd_485 wd_486 wd_84) rfl rfl rfl (by decide +kernel) ⟨Nat.le_of_ble_eq_true rfl, Nat.le_of_ble_eq_true rfl⟩) (k_preV3 (q0 := 0) hK hPc hDc hN rfl) rfl rfl hl.1 rfl (lv_room (Nat.le_of_ble_eq_true rfl)) dX10_flyGeese_144 ⟨by decide +kernel, by decide +kernel⟩) hS (fun q _ h => hFc q h) hFc (fun u₀ t₀ H1 locs ht hvm hw hB hz1 hk1 hS => ?_)
                  obtain ⟨g_178, ga_179, gl_180, gb_181, gp_182⟩ := u₀
                  obtain ⟨hP1, hK1, hD1⟩ := hB
                  rw [ht] at hP1
                  have hJ := k_jn (wr := [(kX10 aTr aLa aPa aGe gL gR gL gR tgo tca tki tso tbe twe tle tan tco ten), (kX4 aLa vLa l4 a4 n4), (kAI vLa cI 24 f4), (kX3 gR z0z3 z1z3 (g_166 0) (g_166 1))]) (wt := [(kX10 aTr aLa aPa aGe gL gR gL gR tgo tca tki tso tbe twe tle tan tco ten), (kX4 aLa vLa l4 a4 n4), (kAI vLa cI 24 f4), (kX3 gR z0z3 z1z3 (g_166 0) (g_166 1)), (kX3 gL w0z3 w1z3 (g_178 0) (g_158 1))]) hP hD hC [0, 1, 2, 4] rfl (by decide +kernel) (by decide +kernel) hk1 hFc hP1 hD1 rfl
                  clear hP hD hPc hDc hFc hC hP1 hD1 hK1 hz1 hk1 hvm ht
                  obtain ⟨hP, hD⟩ := hJ
                  generalize H1 = H at hP hS ⊢
                  try dsimp only at hw
                  have c_183 := hw
                  refine lv_aload_n hx₀ hb dX10_flyGeese_147 rfl (lv_at hl 3 rfl) ?_
                  refine va_get (D := (dC, dI)) (ci := 9) (v := .ref gR) (C := RX10) (T := TX10) (N := 17) hx₀ hb hts inlX10 hown hK hP 0 rfl rfl 6 (by decide) (hts (.fieldLink RX10 24 "BittenStick$Trip" "right" "LBittenStick$Goose;") wd_88) (fun _ h9 => h9) rfl dX10_flyGeese_148 ?_
                  obtain ⟨hPc, hDc, hFc, hC⟩ := k_cw (wc := [(kX3 gR z0z3 z1z3 (g_166 0) (g_166 1))]) hP hD hS hA [3] (by decide +kernel) rfl
                  refine va_callv (va_runV (As := []) (rest := []) ⟨hx₀, hb, hml, hown, hts⟩ (j_gRest l dC dI cI cJ cQ H.size gR z0z3 z1z3 (g_166 0) (g_166 1)) (cwV 0 hts (kGV wd_487 wd_484 wd_485 wd_486 wd_84) rfl rfl rfl (by decide +kernel) ⟨Nat.le_of_ble_eq_true rfl, Nat.le_of_ble_eq_true rfl⟩) (k_preV3 (q0 := 0) hK hPc hDc hN rfl) rfl rfl hl.1 rfl (lv_room (Nat.le_of_ble_eq_true rfl)) dX10_flyGeese_151 ⟨by decide +kernel, by decide +kernel⟩) hS (fun q _ h => hFc q h) hFc (fun u₀ t₀ H1 locs ht hvm hw hB hz1 hk1 hS => ?_)
                  obtain ⟨g_185, ga_186, gl_187, gb_188, gp_189⟩ := u₀
                  obtain ⟨hP1, hK1, hD1⟩ := hB
                  rw [ht] at hP1
                  have hJ := k_jn (wr := [(kX10 aTr aLa aPa aGe gL gR gL gR tgo tca tki tso tbe twe tle tan tco ten), (kX4 aLa vLa l4 a4 n4), (kAI vLa cI 24 f4), (kX3 gL w0z3 w1z3 (g_178 0) (g_158 1))]) (wt := [(kX10 aTr aLa aPa aGe gL gR gL gR tgo tca tki tso tbe twe tle tan tco ten), (kX4 aLa vLa l4 a4 n4), (kAI vLa cI 24 f4), (kX3 gL w0z3 w1z3 (g_178 0) (g_158 1)), (kX3 gR z0z3 z1z3 (g_185 0) (g_166 1))]) hP hD hC [0, 1, 2, 4] rfl (by decide +kernel) (by decide +kernel) hk1 hFc hP1 hD1 rfl
                  clear hP hD hPc hDc hFc hC hP1 hD1 hK1 hz1 hk1 hvm ht
                  obtain ⟨hP, hD⟩ := hJ
                  generalize H1 = H at hP hS ⊢
                  try dsimp only at hw
                  have c_190 := hw
                  refine lv_iinc (v := iz3 + 1) (lv' := [(3, .int (iz3 + 1)), (5, .ref gR), (4, .int (kAt 24 f4 iz3)), (0, .ref aTr), (1, .int la1), (2, .int ro)]) hx₀ hb dX10_flyGeese_154 hl (k := 2) rfl rfl (by decide) rfl (fun ls hl => ?_)
                  refine lv_goto (tgt := 32) hx₀ hb dX10_flyGeese_157 (by decide) ?_
                  exact ihz3 _ (lf_j_flyGeese_9 la1 iz3 jz3 hh0 hiz3_1 hjz3 c_105 c_176) (iz3 + 1) gL gR w0z3 w1z3 (g_178 0) (g_158 1) z0z3 z1z3 (g_185 0) (g_166 1) _ _ _ (absurd (c_107.symm.trans c_175) (by decide)) (lf_j_flyGeese_8 la1 iz3 jz3 hh0 hiz3_1 hjz3 c_105 c_176) rfl (hP.sub [0, 1, 2, 3, 4] rfl) (hD.sub [0, 1, 2, 3, 4] (by decide +kernel) rfl) hS (lv_sub hl [0, 3, 4, 5] rfl)
                · refine lv_iload_n hx₀ hb dX10_flyGeese_136 rfl (lv_at hl 5 rfl) ?_
                  refine lv_if_eq (tgt := 154) hx₀ hb dX10_flyGeese_137 (by decide) (fun c_191 => ?_) (fun c_191 => ?_)
                  · refine lv_iinc (v := iz3 + 1) (lv' := [(3, .int (iz3 + 1)), (5, .ref gR), (4, .int (kAt 24 f4 iz3)), (0, .ref aTr), (1, .int la1), (2, .int ro)]) hx₀ hb dX10_flyGeese_154 hl (k := 2) rfl rfl (by decide) rfl (fun ls hl => ?_)
                    refine lv_goto (tgt := 32) hx₀ hb dX10_flyGeese_157 (by decide) ?_
                    exact ihz3 _ (lf_j_flyGeese_13 la1 iz3 jz3 hh0 hiz3_1 hjz3 c_105 c_176) (iz3 + 1) gL gR w0z3 w1z3 (g_158 0) (g_158 1) z0z3 z1z3 (g_166 0) (g_166 1) _ _ _ (absurd (c_107.symm.trans c_175) (by decide)) (lf_j_flyGeese_12 la1 iz3 jz3 hh0 hiz3_1 hjz3 c_105 c_176) rfl (hP.sub [0, 1, 2, 3, 4] rfl) (hD.sub [0, 1, 2, 3, 4] (by decide +kernel) rfl) hS (lv_sub hl [0, 3, 4, 5] rfl)
                  · refine lv_aload_n hx₀ hb dX10_flyGeese_140 rfl (lv_at hl 3 rfl) ?_
                    refine va_get (D := (dC, dI)) (ci := 9) (v := .ref gL) (C := RX10) (T := TX10) (N := 17) hx₀ hb hts inlX10 hown hK hP 0 rfl rfl 5 (by decide) (hts (.fieldLink RX10 21 "BittenStick$Trip" "left" "LBittenStick$Goose;") wd_87) (fun _ h9 => h9) rfl dX10_flyGeese_141 ?_
                    obtain ⟨hPc, hDc, hFc, hC⟩ := k_cw (wc := [(kX3 gL w0z3 w1z3 (g_158 0) (g_158 1))]) hP hD hS hA [3] (by decide +kernel) rfl
                    refine va_callv (va_runV (As := []) (rest := []) ⟨hx₀, hb, hml, hown, hts⟩ (j_gRest l dC dI cI cJ cQ H.size gL w0z3 w1z3 (g_158 0) (g_158 1)) (cwV 0 hts (kGV wd_487 wd_484 wd_485 wd_486 wd_84) rfl rfl rfl (by decide +kernel) ⟨Nat.le_of_ble_eq_true rfl, Nat.le_of_ble_eq_true rfl⟩) (k_preV3 (q0 := 0) hK hPc hDc hN rfl) rfl rfl hl.1 rfl (lv_room (Nat.le_of_ble_eq_true rfl)) dX10_flyGeese_144 ⟨by decide +kernel, by decide +kernel⟩) hS (fun q _ h => hFc q h) hFc (fun u₀ t₀ H1 locs ht hvm hw hB hz1 hk1 hS => ?_)
                    obtain ⟨g_193, ga_194, gl_195, gb_196, gp_197⟩ := u₀
                    obtain ⟨hP1, hK1, hD1⟩ := hB
                    rw [ht] at hP1
                    have hJ := k_jn (wr := [(kX10 aTr aLa aPa aGe gL gR gL gR tgo tca tki tso tbe twe tle tan tco ten), (kX4 aLa vLa l4 a4 n4), (kAI vLa cI 24 f4), (kX3 gR z0z3 z1z3 (g_166 0) (g_166 1))]) (wt := [(kX10 aTr aLa aPa aGe gL gR gL gR tgo tca tki tso tbe twe tle tan tco ten), (kX4 aLa vLa l4 a4 n4), (kAI vLa cI 24 f4), (kX3 gR z0z3 z1z3 (g_166 0) (g_166 1)), (kX3 gL w0z3 w1z3 (g_193 0) (g_158 1))]) hP hD hC [0, 1, 2, 4] rfl (by decide +kernel) (by decide +kernel) hk1 hFc hP1 hD1 rfl
                    clear hP hD hPc hDc hFc hC hP1 hD1 hK1 hz1 hk1 hvm ht
                    obtain ⟨hP, hD⟩ := hJ
                    generalize H1 = H at hP hS ⊢
                    try dsimp only at hw
                    have c_198 := hw
                    refine lv_aload_n hx₀ hb dX10_flyGeese_147 rfl (lv_at hl 3 rfl) ?_
                    refine va_get (D := (dC, dI)) (ci := 9) (v := .ref gR) (C := RX10) (T := TX10) (N := 17) hx₀ hb hts inlX10 hown hK hP 0 rfl rfl 6 (by decide) (hts (.fieldLink RX10 24 "BittenStick$Trip" "right" "LBittenStick$Goose;") wd_88) (fun _ h9 => h9) rfl dX10_flyGeese_148 ?_
                    obtain ⟨hPc, hDc, hFc, hC⟩ := k_cw (wc := [(kX3 gR z0z3 z1z3 (g_166 0) (g_166 1))]) hP hD hS hA [3] (by decide +kernel) rfl
                    refine va_callv (va_runV (As := []) (rest := []) ⟨hx₀, hb, hml, hown, hts⟩ (j_gRest l dC dI cI cJ cQ H.size gR z0z3 z1z3 (g_166 0) (g_166 1)) (cwV 0 hts (kGV wd_487 wd_484 wd_485 wd_486 wd_84) rfl rfl rfl (by decide +kernel) ⟨Nat.le_of_ble_eq_true rfl, Nat.le_of_ble_eq_true rfl⟩) (k_preV3 (q0 := 0) hK hPc hDc hN rfl) rfl rfl hl.1 rfl (lv_room (Nat.le_of_ble_eq_true rfl)) dX10_flyGeese_151 ⟨by decide +kernel, by decide +kernel⟩) hS (fun q _ h => hFc q h) hFc (fun u₀ t₀ H1 locs ht hvm hw hB hz1 hk1 hS => ?_)
                    obtain ⟨g_200, ga_201, gl_202, gb_203, gp_204⟩ := u₀
                    obtain ⟨hP1, hK1, hD1⟩ := hB
                    rw [ht] at hP1
                    have hJ := k_jn (wr := [(kX10 aTr aLa aPa aGe gL gR gL gR tgo tca tki tso tbe twe tle tan tco ten), (kX4 aLa vLa l4 a4 n4), (kAI vLa cI 24 f4), (kX3 gL w0z3 w1z3 (g_193 0) (g_158 1))]) (wt := [(kX10 aTr aLa aPa aGe gL gR gL gR tgo tca tki tso tbe twe tle tan tco ten), (kX4 aLa vLa l4 a4 n4), (kAI vLa cI 24 f4), (kX3 gL w0z3 w1z3 (g_193 0) (g_158 1)), (kX3 gR z0z3 z1z3 (g_200 0) (g_166 1))]) hP hD hC [0, 1, 2, 4] rfl (by decide +kernel) (by decide +kernel) hk1 hFc hP1 hD1 rfl
                    clear hP hD hPc hDc hFc hC hP1 hD1 hK1 hz1 hk1 hvm ht
                    obtain ⟨hP, hD⟩ := hJ
                    generalize H1 = H at hP hS ⊢
                    try dsimp only at hw
                    have c_205 := hw
                    refine lv_iinc (v := iz3 + 1) (lv' := [(3, .int (iz3 + 1)), (5, .ref gR), (4, .int (kAt 24 f4 iz3)), (0, .ref aTr), (1, .int la1), (2, .int ro)]) hx₀ hb dX10_flyGeese_154 hl (k := 2) rfl rfl (by decide) rfl (fun ls hl => ?_)
                    refine lv_goto (tgt := 32) hx₀ hb dX10_flyGeese_157 (by decide) ?_
                    exact ihz3 _ (lf_j_flyGeese_13 la1 iz3 jz3 hh0 hiz3_1 hjz3 c_105 c_176) (iz3 + 1) gL gR w0z3 w1z3 (g_193 0) (g_158 1) z0z3 z1z3 (g_200 0) (g_166 1) _ _ _ (absurd (c_107.symm.trans c_175) (by decide)) (lf_j_flyGeese_12 la1 iz3 jz3 hh0 hiz3_1 hjz3 c_105 c_176) rfl (hP.sub [0, 1, 2, 3, 4] rfl) (hD.sub [0, 1, 2, 3, 4] (by decide +kernel) rfl) hS (lv_sub hl [0, 3, 4, 5] rfl)
            · refine lv_iload_n hx₀ hb dX10_flyGeese_122 rfl (lv_at hl 2 rfl) ?_
              obtain ⟨hP9, hD9⟩ := k_c2 (wc := [(kX10 aTr aLa aPa aGe gL gR gL gR tgo tca tki tso tbe twe tle tan tco ten), (kX3 gL w0z3 w1z3 (g_158 0) (g_158 1)), (kX3 gR z0z3 z1z3 (g_166 0) (g_166 1)), (kX4 aLa vLa l4 a4 n4), (kAI vLa cI 24 f4)]) hP hD [0, 3, 4, 1, 2] (by decide +kernel) rfl
              exact W.iret (v := iz3) hx₀ hb hr (fun t₀ ht hW => ⟨⟨iz3, (k_fn [w0z3, w1z3, (g_158 0), (g_158 1), z0z3, z1z3, (g_166 0), (g_166 1)], k_fa [], k_fl [], k_fL [], k_fp [gL, gR]), rfl, ⟨(kCt_fw hkz3 (lf_j_flyGeese_4 la1 iz3 jz3 hh0 hiz3_1 hjz3 c_105) c_107 c_163 c_171 (Or.inr (Int32.not_le.mp c_174))), (show (gL = gL ∧ gR = gR) ∨ (gL = gR ∧ gR = gL) from (Or.inl (⟨rfl, rfl⟩)))⟩, by rw [ht]; exact hP9, va_K.moved hW.alike hK, hD9⟩, hS.F ht⟩) hS.2.2 dX10_flyGeese_123
theorem lf_j_board_1 (a0 : Int32) (h0 : 0 ≤ a0 ∧ a0 ≤ 24) : -1 ≤ (a0 - 1) ∧ (a0 - 1).toInt < 2147483647 := by
  first | rfl | assumption | decide | exact Or.inl rfl | (first | rfl | assumption | decide | omega | (have hr0 := Int32.toInt_lt a0; have hs0 := Int32.le_toInt a0; simp only [Int64.toInt_add, Int64.toInt_sub, Int32.toInt_add, Int32.toInt_sub, Int32.toInt_mul, Int64.le_iff_toInt_le, Int64.lt_iff_toInt_lt, Int32.le_iff_toInt_le, Int32.lt_iff_toInt_lt, ← Int32.toInt_inj, ← Int64.toInt_inj, Int32.toInt_toInt64, kc_m1, kc_0, kc_1, kc_24, kc_2147483647, true_and, and_true, not_true_eq_false, not_false_eq_true] at * <;> ((first | omega | ((try simp (disch := omega) only [k_bm64] at *); (try simp (disch := omega) only [k_bm] at *); (try simp (disch := omega) only [k_bm] at *); omega) | (simp only [Int.bmod] at *; omega)))))
set_option maxHeartbeats 4000000 in
set_option maxRecDepth 100000 in
theorem j_board (l : Launch) (dC : Nat → ClassId) (dI : Nat → Nat → Nat) (cI cJ cQ : ClassId) (sz : Nat) (aTr : Nat) (p1 : Int32) (q1 : Int32) (r1 : Int32) (aLa : Nat) (aPa : Nat) (aGe : Nat) (gL : Nat) (gR : Nat) (lf : Nat) (rt : Nat) (tgo : Int32) (tca : Int32) (tki : Int32) (tso : Int32) (tbe : Int32) (twe : Int32) (tle : Int32) (tan : Int32) (tco : Int32) (ten : Int32) (u0 : Int32) (u1 : Int32) (u2 : Int32) (u3 : Int32) (v0 : Int32) (v1 : Int32) (v2 : Int32) (v3 : Int32) (vLa : Nat) (l4 : Int32) (a4 : Int32) (n4 : Int32) (f4 : Nat → Int32) (vPa : Nat) (l7 : Int32) (a7 : Int32) (n7 : Int32) (f7 : Nat → Int32) (vGe : Nat) (l2 : Int32) (a2 : Int32) (n2 : Int32) (f2 : Nat → Int32) (hh0 : 0 ≤ n4 ∧ n4 ≤ 24) : Met l yX10_board (kW yX10_board cX10_board 4 none) { frames := 2, cells := 0, slots := 0, locals := 46 } (kPre dC dI cI cJ cQ sz [.ref aTr, .int p1, .int q1, .int r1] [(kX10 aTr aLa aPa aGe gL gR lf rt tgo tca tki tso tbe twe tle tan tco ten), (kX3 gL u0 u1 u2 u3), (kX3 gR v0 v1 v2 v3), (kX4 aLa vLa l4 a4 n4), (kAI vLa cI 24 f4), (kX7 aPa vPa l7 a7 n7), (kAI vPa cI 39 f7), (kX2 aGe vGe l2 a2 n2), (kAI vGe cI 23 f2)]) (va_Qv (fun (u : kS) => ((u.1 8) = if (0 ≤ p1 ∧ p1 < n7) ∧ (0 ≤ q1 ∧ q1 < n2) ∧ 0 ≤ r1 ∧ r1 < n2 then 1 else 0) ∧ ((u.1 9) = if (0 ≤ p1 ∧ p1 < n7) ∧ (0 ≤ q1 ∧ q1 < n2) ∧ 0 ≤ r1 ∧ r1 < n2 then kCt (kAt 24 f4) (kAt 39 f7 ((5 * p1) + 3)) (kfu n4 0) 0 ((kAt 23 f2 ((3 * q1) + 0), kAt 23 f2 ((3 * q1) + 1), kAt 23 f2 ((3 * q1) + 0), 0), (kAt 23 f2 ((3 * r1) + 0), kAt 23 f2 ((3 * r1) + 1), kAt 23 f2 ((3 * r1) + 0), 0)) else 0) ∧ ((u.1 10) = if (0 ≤ p1 ∧ p1 < n7) ∧ (0 ≤ q1 ∧ q1 < n2) ∧ 0 ≤ r1 ∧ r1 < n2 then kAt 39 f7 ((5 * p1) + 0) else tki) ∧ ((u.1 11) = if (0 ≤ p1 ∧ p1 < n7) ∧ (0 ≤ q1 ∧ q1 < n2) ∧ 0 ≤ r1 ∧ r1 < n2 then kAt 39 f7 ((5 * p1) + 1) else tso) ∧ ((u.1 12) = if (0 ≤ p1 ∧ p1 < n7) ∧ (0 ≤ q1 ∧ q1 < n2) ∧ 0 ≤ r1 ∧ r1 < n2 then 5 * (kAt 39 f7 ((5 * p1) + 2)) else tbe) ∧ ((u.1 13) = if (0 ≤ p1 ∧ p1 < n7) ∧ (0 ≤ q1 ∧ q1 < n2) ∧ 0 ≤ r1 ∧ r1 < n2 then kAt 39 f7 ((5 * p1) + 3) else twe)) (fun (u : kS) t₀ => kB dC dI cI cJ cQ (va_A [(kX10 aTr aLa aPa aGe gL gR lf rt tgo tca tki tso tbe twe tle tan tco ten), (kX3 gL u0 u1 u2 u3), (kX3 gR v0 v1 v2 v3), (kX4 aLa vLa l4 a4 n4), (kAI vLa cI 24 f4), (kX7 aPa vPa l7 a7 n7), (kAI vPa cI 39 f7), (kX2 aGe vGe l2 a2 n2), (kAI vGe cI 23 f2)] sz) [(kX10 aTr aLa aPa aGe gL gR (u.2.2.2.2 0) (u.2.2.2.2 1) (u.1 8) (u.1 9) (u.1 10) (u.1 11) (u.1 12) (u.1 13) tle tan tco ten), (kX3 gL (u.1 0) (u.1 1) (u.1 2) (u.1 3)), (kX3 gR (u.1 4) (u.1 5) (u.1 6) (u.1 7)), (kX4 aLa vLa l4 a4 n4), (kAI vLa cI 24 f4), (kX7 aPa vPa l7 a7 n7), (kAI vPa cI 39 f7), (kX2 aGe vGe l2 a2 n2), (kAI vGe cI 23 f2)] t₀) (va_A [(kX10 aTr aLa aPa aGe gL gR lf rt tgo tca tki tso tbe twe tle tan tco ten), (kX3 gL u0 u1 u2 u3), (kX3 gR v0 v1 v2 v3), (kX4 aLa vLa l4 a4 n4), (kAI vLa cI 24 f4), (kX7 aPa vPa l7 a7 n7), (kAI vPa cI 39 f7), (kX2 aGe vGe l2 a2 n2), (kAI vGe cI 23 f2)] sz)) 0 0 (va_A [(kX10 aTr aLa aPa aGe gL gR lf rt tgo tca tki tso tbe twe tle tan tco ten), (kX3 gL u0 u1 u2 u3), (kX3 gR v0 v1 v2 v3), (kX4 aLa vLa l4 a4 n4), (kAI vLa cI 24 f4), (kX7 aPa vPa l7 a7 n7), (kAI vPa cI 39 f7), (kX2 aGe vGe l2 a2 n2), (kAI vGe cI 23 f2)] sz) := by
  refine Met.ofW (cc := cX10_board) (maxL := 4) (ret := none) (by decide) rfl ?_
  intro p₀ e₀ s₀ m₀ args below meth c₀ s₁ B hml hv₀
  obtain ⟨rfl, hsz, hP, hK, hD0, hN⟩ := hv₀
  have hx₀ := B.exec
  have hb := B.bytes
  have hr := B.returns
  have hts := atoms_spec (ws := (kW yX10_board cX10_board 4 none)) B.pre
  have hts := fun w h => hts w (List.mem_cons_of_mem _ h)
  have hown : s₀.vm.findClass RX10 = some m₀.cls := findClass_of_methodNamed B.named
  have hlocks := B.notSynchronized
  subst hsz
  have hD := hD0.self (sz := s₀.heap.size)
  generalize hAe : va_A [(kX10 aTr aLa aPa aGe gL gR lf rt tgo tca tki tso tbe twe tle tan tco ten), (kX3 gL u0 u1 u2 u3), (kX3 gR v0 v1 v2 v3), (kX4 aLa vLa l4 a4 n4), (kAI vLa cI 24 f4), (kX7 aPa vPa l7 a7 n7), (kAI vPa cI 39 f7), (kX2 aGe vGe l2 a2 n2), (kAI vGe cI 23 f2)] s₀.heap.size = A at hD ⊢
  have hA : ∀ q : Nat, s₀.heap.size ≤ q → A q := fun q h => by rw [← hAe]; exact Or.inr h
  have hS : va_S A s₀.heap s₀.heap [] := va_S.rf
  have hP : va_P (dC, dI) vwCl [(kX10 aTr aLa aPa aGe gL gR lf rt tgo tca tki tso tbe twe tle tan tco ten), (kX3 gL u0 u1 u2 u3), (kX3 gR v0 v1 v2 v3), (kX4 aLa vLa l4 a4 n4), (kAI vLa cI 24 f4), (kX7 aPa vPa l7 a7 n7), (kAI vPa cI 39 f7), (kX2 aGe vGe l2 a2 n2), (kAI vGe cI 23 f2)] s₀.heap := hP
  have hl := lv_entry ([.ref aTr, .int p1, .int q1, .int r1]) (n := 4) (Nat.le_of_ble_eq_true rfl)
  rw [lg_entry_eq]
  generalize (lg_sl ([.ref aTr, .int p1, .int q1, .int r1]) ++ List.replicate (4 - (lg_sl ([.ref aTr, .int p1, .int q1, .int r1])).length) Slot.unset).toArray = ls at hl ⊢
  have hl : lv_has ls 4 [(0, .ref aTr), (1, .int p1), (2, .int q1), (3, .int r1)] := hl
  obtain ⟨H, hH⟩ : ∃ z : Heap, z = s₀.heap := ⟨_, rfl⟩
  rw [← hH] at hP
  have hS : va_S A s₀.heap H [] := by rw [hH]; exact hS
  refine k_heap hH ?_
  have hD : va_D A [(kX10 aTr aLa aPa aGe gL gR lf rt tgo tca tki tso tbe twe tle tan tco ten), (kX3 gL u0 u1 u2 u3), (kX3 gR v0 v1 v2 v3), (kX4 aLa vLa l4 a4 n4), (kAI vLa cI 24 f4), (kX7 aPa vPa l7 a7 n7), (kAI vPa cI 39 f7), (kX2 aGe vGe l2 a2 n2), (kAI vGe cI 23 f2)] := hD
  obtain ⟨locs, hlo⟩ : ∃ z : List Loc, z = [] := ⟨_, rfl⟩
  rw [← hlo] at hS ⊢
  clear hlo hH hAe hD0
  refine lv_aload_n hx₀ hb dX10_board_0 rfl (lv_at hl 0 rfl) ?_
  refine lv_aload_n hx₀ hb dX10_board_1 rfl (lv_at hl 0 rfl) ?_
  refine va_get (D := (dC, dI)) (ci := 9) (v := .ref aPa) (C := RX10) (T := TX10) (N := 17) hx₀ hb hts inlX10 hown hK hP 0 rfl rfl 1 (by decide) (hts (.fieldLink RX10 31 "BittenStick$Trip" "passengers" "LBittenStick$Passengers;") wd_90) (fun _ h9 => h9) rfl dX10_board_2 ?_
  refine lv_iload_n hx₀ hb dX10_board_5 rfl (lv_at hl 1 rfl) ?_
  obtain ⟨hPc, hDc, hFc, hC⟩ := k_cw (wc := [(kX7 aPa vPa l7 a7 n7)]) hP hD hS hA [5] (by decide +kernel) rfl
  refine va_calli (va_runU (As := [.int p1]) (rest := [.ref aTr]) ⟨hx₀, hb, hml, hown, hts⟩ (j_has_X7 l dC dI cI cJ cQ H.size aPa p1 vPa l7 a7 n7) (va_cwU 1 hts (kGU wd_307 wd_462 wd_304 wd_305 wd_306 wd_57) rfl rfl rfl rfl (by decide +kernel) ⟨Nat.le_of_ble_eq_true rfl, Nat.le_of_ble_eq_true rfl⟩) (k_preV7 (q0 := 0) hK hPc hDc hN rfl) rfl rfl hl.1 rfl (lv_room (Nat.le_of_ble_eq_true rfl)) dX10_board_6 ⟨by decide +kernel, by decide +kernel⟩) hS (fun q _ h => hFc q h) hFc (fun r_1 u₀ t₀ H1 locs ht hvm hw hB hz1 hk1 hS => ?_)
  obtain ⟨hP1, hK1, hD1⟩ := hB
  rw [ht] at hP1
  have hJ := k_jn (wr := [(kX10 aTr aLa aPa aGe gL gR lf rt tgo tca tki tso tbe twe tle tan tco ten), (kX3 gL u0 u1 u2 u3), (kX3 gR v0 v1 v2 v3), (kX4 aLa vLa l4 a4 n4), (kAI vLa cI 24 f4), (kAI vPa cI 39 f7), (kX2 aGe vGe l2 a2 n2), (kAI vGe cI 23 f2)]) (wt := [(kX10 aTr aLa aPa aGe gL gR lf rt tgo tca tki tso tbe twe tle tan tco ten), (kX3 gL u0 u1 u2 u3), (kX3 gR v0 v1 v2 v3), (kX4 aLa vLa l4 a4 n4), (kAI vLa cI 24 f4), (kAI vPa cI 39 f7), (kX2 aGe vGe l2 a2 n2), (kAI vGe cI 23 f2), (kX7 aPa vPa l7 a7 n7)]) hP hD hC [0, 1, 2, 3, 4, 6, 7, 8] rfl (by decide +kernel) (by decide +kernel) hk1 hFc hP1 hD1 rfl
  clear hP hD hPc hDc hFc hC hP1 hD1 hK1 hz1 hk1 hvm ht
  obtain ⟨hP, hD⟩ := hJ
  generalize H1 = H at hP hS ⊢
  try dsimp only at hw
  by_cases c_2 : 0 ≤ p1 ∧ p1 < n7
  · rw [if_pos c_2] at hw
    refine k_topi (v := 1) hw ?_
    refine lv_if_eq (tgt := 38) hx₀ hb dX10_board_9 (by decide) (fun c9 => absurd c9 (by decide +kernel)) (fun _ => ?_)
    refine lv_aload_n hx₀ hb dX10_board_12 rfl (lv_at hl 0 rfl) ?_
    refine va_get (D := (dC, dI)) (ci := 9) (v := .ref aGe) (C := RX10) (T := TX10) (N := 17) hx₀ hb hts inlX10 hown hK hP 0 rfl rfl 2 (by decide) (hts (.fieldLink RX10 35 "BittenStick$Trip" "geese" "LBittenStick$Geese;") wd_91) (fun _ h9 => h9) rfl dX10_board_13 ?_
    refine lv_iload_n hx₀ hb dX10_board_16 rfl (lv_at hl 2 rfl) ?_
    obtain ⟨hPc, hDc, hFc, hC⟩ := k_cw (wc := [(kX2 aGe vGe l2 a2 n2)]) hP hD hS hA [6] (by decide +kernel) rfl
    refine va_calli (va_runU (As := [.int q1]) (rest := [.ref aTr]) ⟨hx₀, hb, hml, hown, hts⟩ (j_has_X2 l dC dI cI cJ cQ H.size aGe q1 vGe l2 a2 n2) (va_cwU 1 hts (kGU wd_307 wd_463 wd_329 wd_330 wd_306 wd_57) rfl rfl rfl rfl (by decide +kernel) ⟨Nat.le_of_ble_eq_true rfl, Nat.le_of_ble_eq_true rfl⟩) (k_preV2 (q0 := 0) hK hPc hDc hN rfl) rfl rfl hl.1 rfl (lv_room (Nat.le_of_ble_eq_true rfl)) dX10_board_17 ⟨by decide +kernel, by decide +kernel⟩) hS (fun q _ h => hFc q h) hFc (fun r_3 u₀ t₀ H1 locs ht hvm hw hB hz1 hk1 hS => ?_)
    obtain ⟨hP1, hK1, hD1⟩ := hB
    rw [ht] at hP1
    have hJ := k_jn (wr := [(kX10 aTr aLa aPa aGe gL gR lf rt tgo tca tki tso tbe twe tle tan tco ten), (kX3 gL u0 u1 u2 u3), (kX3 gR v0 v1 v2 v3), (kX4 aLa vLa l4 a4 n4), (kAI vLa cI 24 f4), (kAI vPa cI 39 f7), (kAI vGe cI 23 f2), (kX7 aPa vPa l7 a7 n7)]) (wt := [(kX10 aTr aLa aPa aGe gL gR lf rt tgo tca tki tso tbe twe tle tan tco ten), (kX3 gL u0 u1 u2 u3), (kX3 gR v0 v1 v2 v3), (kX4 aLa vLa l4 a4 n4), (kAI vLa cI 24 f4), (kAI vPa cI 39 f7), (kAI vGe cI 23 f2), (kX7 aPa vPa l7 a7 n7), (kX2 aGe vGe l2 a2 n2)]) hP hD hC [0, 1, 2, 3, 4, 5, 7, 8] rfl (by decide +kernel) (by decide +kernel) hk1 hFc hP1 hD1 rfl
    clear hP hD hPc hDc hFc hC hP1 hD1 hK1 hz1 hk1 hvm ht
    obtain ⟨hP, hD⟩ := hJ
    generalize H1 = H at hP hS ⊢
    try dsimp only at hw
    by_cases c_4 : 0 ≤ q1 ∧ q1 < n2
    · rw [if_pos c_4] at hw
      refine k_topi (v := 1) hw ?_
      refine lv_if_eq (tgt := 38) hx₀ hb dX10_board_20 (by decide) (fun c9 => absurd c9 (by decide +kernel)) (fun _ => ?_)
      refine lv_aload_n hx₀ hb dX10_board_23 rfl (lv_at hl 0 rfl) ?_
      refine va_get (D := (dC, dI)) (ci := 9) (v := .ref aGe) (C := RX10) (T := TX10) (N := 17) hx₀ hb hts inlX10 hown hK hP 0 rfl rfl 2 (by decide) (hts (.fieldLink RX10 35 "BittenStick$Trip" "geese" "LBittenStick$Geese;") wd_91) (fun _ h9 => h9) rfl dX10_board_24 ?_
      refine lv_iload_n hx₀ hb dX10_board_27 rfl (lv_at hl 3 rfl) ?_
      obtain ⟨hPc, hDc, hFc, hC⟩ := k_cw (wc := [(kX2 aGe vGe l2 a2 n2)]) hP hD hS hA [8] (by decide +kernel) rfl
      refine va_calli (va_runU (As := [.int r1]) (rest := [.ref aTr]) ⟨hx₀, hb, hml, hown, hts⟩ (j_has_X2 l dC dI cI cJ cQ H.size aGe r1 vGe l2 a2 n2) (va_cwU 1 hts (kGU wd_307 wd_463 wd_329 wd_330 wd_306 wd_57) rfl rfl rfl rfl (by decide +kernel) ⟨Nat.le_of_ble_eq_true rfl, Nat.le_of_ble_eq_true rfl⟩) (k_preV2 (q0 := 0) hK hPc hDc hN rfl) rfl rfl hl.1 rfl (lv_room (Nat.le_of_ble_eq_true rfl)) dX10_board_28 ⟨by decide +kernel, by decide +kernel⟩) hS (fun q _ h => hFc q h) hFc (fun r_5 u₀ t₀ H1 locs ht hvm hw hB hz1 hk1 hS => ?_)
      obtain ⟨hP1, hK1, hD1⟩ := hB
      rw [ht] at hP1
      have hJ := k_jn (wr := [(kX10 aTr aLa aPa aGe gL gR lf rt tgo tca tki tso tbe twe tle tan tco ten), (kX3 gL u0 u1 u2 u3), (kX3 gR v0 v1 v2 v3), (kX4 aLa vLa l4 a4 n4), (kAI vLa cI 24 f4), (kAI vPa cI 39 f7), (kAI vGe cI 23 f2), (kX7 aPa vPa l7 a7 n7)]) (wt := [(kX10 aTr aLa aPa aGe gL gR lf rt tgo tca tki tso tbe twe tle tan tco ten), (kX3 gL u0 u1 u2 u3), (kX3 gR v0 v1 v2 v3), (kX4 aLa vLa l4 a4 n4), (kAI vLa cI 24 f4), (kAI vPa cI 39 f7), (kAI vGe cI 23 f2), (kX7 aPa vPa l7 a7 n7), (kX2 aGe vGe l2 a2 n2)]) hP hD hC [0, 1, 2, 3, 4, 5, 6, 7] rfl (by decide +kernel) (by decide +kernel) hk1 hFc hP1 hD1 rfl
      clear hP hD hPc hDc hFc hC hP1 hD1 hK1 hz1 hk1 hvm ht
      obtain ⟨hP, hD⟩ := hJ
      generalize H1 = H at hP hS ⊢
      try dsimp only at hw
      by_cases c_6 : 0 ≤ r1 ∧ r1 < n2
      · rw [if_pos c_6] at hw
        refine k_topi (v := 1) hw ?_
        refine lv_if_eq (tgt := 38) hx₀ hb dX10_board_31 (by decide) (fun c9 => absurd c9 (by decide +kernel)) (fun _ => ?_)
        refine lv_iconst (v := 1) hx₀ hb dX10_board_34 (by decide +kernel) ?_
        refine lv_goto (tgt := 39) hx₀ hb dX10_board_35 (by decide) ?_
        refine va_put (D := (dC, dI)) (ci := 9) (v := .int 1) (ty := .boolean) (C := RX10) (T := TX10) (N := 17) hx₀ hb hts inlX10 tyX10 tyX10_ok nmX10 hown hK hP hD hS 0 rfl rfl 7 (by decide) (hts (.fieldLink RX10 48 "BittenStick$Trip" "goes" "Z") wd_453) (fun _ h9 => h9) rfl (by decide +kernel) (by decide +kernel) (by decide +kernel) (Nat.le_of_ble_eq_true rfl) dX10_board_39 ?_
        clear hP hD hS
        intro H locs hP hD hS
        replace hP := k_w2 (wt := [(kX10 aTr aLa aPa aGe gL gR lf rt 1 tca tki tso tbe twe tle tan tco ten), (kX3 gL u0 u1 u2 u3), (kX3 gR v0 v1 v2 v3), (kX4 aLa vLa l4 a4 n4), (kAI vLa cI 24 f4), (kAI vPa cI 39 f7), (kAI vGe cI 23 f2), (kX7 aPa vPa l7 a7 n7), (kX2 aGe vGe l2 a2 n2)]) hP hD rfl
        replace hD := hP.2
        replace hP := hP.1
        refine lv_aload_n hx₀ hb dX10_board_42 rfl (lv_at hl 0 rfl) ?_
        refine lv_iconst (v := 0) hx₀ hb dX10_board_43 (by decide +kernel) ?_
        refine va_put (D := (dC, dI)) (ci := 9) (v := .int 0) (ty := .int) (C := RX10) (T := TX10) (N := 17) hx₀ hb hts inlX10 tyX10 tyX10_ok nmX10 hown hK hP hD hS 0 rfl rfl 8 (by decide) (hts (.fieldLink RX10 52 "BittenStick$Trip" "carriedTo" "I") wd_454) (fun _ h9 => h9) rfl (by decide +kernel) rfl rfl (Nat.le_of_ble_eq_true rfl) dX10_board_44 ?_
        clear hP hD hS
        intro H locs hP hD hS
        replace hP := k_w2 (wt := [(kX10 aTr aLa aPa aGe gL gR lf rt 1 0 tki tso tbe twe tle tan tco ten), (kX3 gL u0 u1 u2 u3), (kX3 gR v0 v1 v2 v3), (kX4 aLa vLa l4 a4 n4), (kAI vLa cI 24 f4), (kAI vPa cI 39 f7), (kAI vGe cI 23 f2), (kX7 aPa vPa l7 a7 n7), (kX2 aGe vGe l2 a2 n2)]) hP hD rfl
        replace hD := hP.2
        replace hP := hP.1
        refine lv_aload_n hx₀ hb dX10_board_47 rfl (lv_at hl 0 rfl) ?_
        refine va_get (D := (dC, dI)) (ci := 9) (v := .int 1) (C := RX10) (T := TX10) (N := 17) hx₀ hb hts inlX10 hown hK hP 0 rfl rfl 7 (by decide) (hts (.fieldLink RX10 48 "BittenStick$Trip" "goes" "Z") wd_453) (fun _ h9 => h9) rfl dX10_board_48 ?_
        refine lv_if_eq (tgt := 190) hx₀ hb dX10_board_51 (by decide) (fun c9 => absurd c9 (by decide +kernel)) (fun _ => ?_)
        refine lv_aload_n hx₀ hb dX10_board_54 rfl (lv_at hl 0 rfl) ?_
        refine lv_aload_n hx₀ hb dX10_board_55 rfl (lv_at hl 0 rfl) ?_
        refine va_get (D := (dC, dI)) (ci := 9) (v := .ref aPa) (C := RX10) (T := TX10) (N := 17) hx₀ hb hts inlX10 hown hK hP 0 rfl rfl 1 (by decide) (hts (.fieldLink RX10 31 "BittenStick$Trip" "passengers" "LBittenStick$Passengers;") wd_90) (fun _ h9 => h9) rfl dX10_board_56 ?_
        refine lv_iload_n hx₀ hb dX10_board_59 rfl (lv_at hl 1 rfl) ?_
        refine lv_iconst (v := 0) hx₀ hb dX10_board_60 (by decide +kernel) ?_
        obtain ⟨hPc, hDc, hFc, hC⟩ := k_cw (wc := [(kX7 aPa vPa l7 a7 n7), (kAI vPa cI 39 f7)]) hP hD hS hA [7, 5] (by decide +kernel) rfl
        refine va_calli (va_runV (As := [.int p1, .int 0]) (rest := [.ref aTr]) ⟨hx₀, hb, hml, hown, hts⟩ (j_toldP l dC dI cI cJ cQ H.size aPa p1 0 vPa l7 a7 n7 f7) (cwV 2 hts (kGV wd_311 wd_464 wd_309 wd_310 wd_18) rfl rfl rfl (by decide +kernel) ⟨Nat.le_of_ble_eq_true rfl, Nat.le_of_ble_eq_true rfl⟩) (k_preV7 (q0 := 0) hK hPc hDc hN rfl) rfl rfl hl.1 rfl (lv_room (Nat.le_of_ble_eq_true rfl)) dX10_board_61 ⟨by decide +kernel, by decide +kernel⟩) hS (fun q _ h => hFc q h) hFc (fun r_7 u₀ t₀ H1 locs ht hvm hw hB hz1 hk1 hS => ?_)
        obtain ⟨hP1, hK1, hD1⟩ := hB
        rw [ht] at hP1
        have hJ := k_jn (wr := [(kX10 aTr aLa aPa aGe gL gR lf rt 1 0 tki tso tbe twe tle tan tco ten), (kX3 gL u0 u1 u2 u3), (kX3 gR v0 v1 v2 v3), (kX4 aLa vLa l4 a4 n4), (kAI vLa cI 24 f4), (kAI vGe cI 23 f2), (kX2 aGe vGe l2 a2 n2)]) (wt := [(kX10 aTr aLa aPa aGe gL gR lf rt 1 0 tki tso tbe twe tle tan tco ten), (kX3 gL u0 u1 u2 u3), (kX3 gR v0 v1 v2 v3), (kX4 aLa vLa l4 a4 n4), (kAI vLa cI 24 f4), (kAI vGe cI 23 f2), (kX2 aGe vGe l2 a2 n2), (kX7 aPa vPa l7 a7 n7), (kAI vPa cI 39 f7)]) hP hD hC [0, 1, 2, 3, 4, 6, 8] rfl (by decide +kernel) (by decide +kernel) hk1 hFc hP1 hD1 rfl
        clear hP hD hPc hDc hFc hC hP1 hD1 hK1 hz1 hk1 hvm ht
        obtain ⟨hP, hD⟩ := hJ
        generalize H1 = H at hP hS ⊢
        try dsimp only at hw
        refine k_topi (v := kAt 39 f7 ((5 * p1) + (0 : Int32))) hw ?_
        refine va_put (D := (dC, dI)) (ci := 9) (v := .int (kAt 39 f7 ((5 * p1) + (0 : Int32)))) (ty := .int) (C := RX10) (T := TX10) (N := 17) hx₀ hb hts inlX10 tyX10 tyX10_ok nmX10 hown hK hP hD hS 0 rfl rfl 9 (by decide) (hts (.fieldLink RX10 60 "BittenStick$Trip" "kind" "I") wd_455) (fun _ h9 => h9) rfl (by decide +kernel) rfl rfl (Nat.le_of_ble_eq_true rfl) dX10_board_64 ?_
        clear hP hD hS
        intro H locs hP hD hS
        replace hP := k_w2 (wt := [(kX10 aTr aLa aPa aGe gL gR lf rt 1 0 (kAt 39 f7 ((5 * p1) + (0 : Int32))) tso tbe twe tle tan tco ten), (kX3 gL u0 u1 u2 u3), (kX3 gR v0 v1 v2 v3), (kX4 aLa vLa l4 a4 n4), (kAI vLa cI 24 f4), (kAI vGe cI 23 f2), (kX2 aGe vGe l2 a2 n2), (kX7 aPa vPa l7 a7 n7), (kAI vPa cI 39 f7)]) hP hD rfl
        replace hD := hP.2
        replace hP := hP.1
        refine lv_aload_n hx₀ hb dX10_board_67 rfl (lv_at hl 0 rfl) ?_
        refine lv_aload_n hx₀ hb dX10_board_68 rfl (lv_at hl 0 rfl) ?_
        refine va_get (D := (dC, dI)) (ci := 9) (v := .ref aPa) (C := RX10) (T := TX10) (N := 17) hx₀ hb hts inlX10 hown hK hP 0 rfl rfl 1 (by decide) (hts (.fieldLink RX10 31 "BittenStick$Trip" "passengers" "LBittenStick$Passengers;") wd_90) (fun _ h9 => h9) rfl dX10_board_69 ?_
        refine lv_iload_n hx₀ hb dX10_board_72 rfl (lv_at hl 1 rfl) ?_
        refine lv_iconst (v := 1) hx₀ hb dX10_board_73 (by decide +kernel) ?_
        obtain ⟨hPc, hDc, hFc, hC⟩ := k_cw (wc := [(kX7 aPa vPa l7 a7 n7), (kAI vPa cI 39 f7)]) hP hD hS hA [7, 8] (by decide +kernel) rfl
        refine va_calli (va_runV (As := [.int p1, .int 1]) (rest := [.ref aTr]) ⟨hx₀, hb, hml, hown, hts⟩ (j_toldP l dC dI cI cJ cQ H.size aPa p1 1 vPa l7 a7 n7 f7) (cwV 2 hts (kGV wd_311 wd_464 wd_309 wd_310 wd_18) rfl rfl rfl (by decide +kernel) ⟨Nat.le_of_ble_eq_true rfl, Nat.le_of_ble_eq_true rfl⟩) (k_preV7 (q0 := 0) hK hPc hDc hN rfl) rfl rfl hl.1 rfl (lv_room (Nat.le_of_ble_eq_true rfl)) dX10_board_74 ⟨by decide +kernel, by decide +kernel⟩) hS (fun q _ h => hFc q h) hFc (fun r_8 u₀ t₀ H1 locs ht hvm hw hB hz1 hk1 hS => ?_)
        obtain ⟨hP1, hK1, hD1⟩ := hB
        rw [ht] at hP1
        have hJ := k_jn (wr := [(kX10 aTr aLa aPa aGe gL gR lf rt 1 0 (kAt 39 f7 ((5 * p1) + (0 : Int32))) tso tbe twe tle tan tco ten), (kX3 gL u0 u1 u2 u3), (kX3 gR v0 v1 v2 v3), (kX4 aLa vLa l4 a4 n4), (kAI vLa cI 24 f4), (kAI vGe cI 23 f2), (kX2 aGe vGe l2 a2 n2)]) (wt := [(kX10 aTr aLa aPa aGe gL gR lf rt 1 0 (kAt 39 f7 ((5 * p1) + (0 : Int32))) tso tbe twe tle tan tco ten), (kX3 gL u0 u1 u2 u3), (kX3 gR v0 v1 v2 v3), (kX4 aLa vLa l4 a4 n4), (kAI vLa cI 24 f4), (kAI vGe cI 23 f2), (kX2 aGe vGe l2 a2 n2), (kX7 aPa vPa l7 a7 n7), (kAI vPa cI 39 f7)]) hP hD hC [0, 1, 2, 3, 4, 5, 6] rfl (by decide +kernel) (by decide +kernel) hk1 hFc hP1 hD1 rfl
        clear hP hD hPc hDc hFc hC hP1 hD1 hK1 hz1 hk1 hvm ht
        obtain ⟨hP, hD⟩ := hJ
        generalize H1 = H at hP hS ⊢
        try dsimp only at hw
        refine k_topi (v := kAt 39 f7 ((5 * p1) + (1 : Int32))) hw ?_
        refine va_put (D := (dC, dI)) (ci := 9) (v := .int (kAt 39 f7 ((5 * p1) + (1 : Int32)))) (ty := .int) (C := RX10) (T := TX10) (N := 17) hx₀ hb hts inlX10 tyX10 tyX10_ok nmX10 hown hK hP hD hS 0 rfl rfl 10 (by decide) (hts (.fieldLink RX10 63 "BittenStick$Trip" "sore" "I") wd_456) (fun _ h9 => h9) rfl (by decide +kernel) rfl rfl (Nat.le_of_ble_eq_true rfl) dX10_board_77 ?_
        clear hP hD hS
        intro H locs hP hD hS
        replace hP := k_w2 (wt := [(kX10 aTr aLa aPa aGe gL gR lf rt 1 0 (kAt 39 f7 ((5 * p1) + (0 : Int32))) (kAt 39 f7 ((5 * p1) + (1 : Int32))) tbe twe tle tan tco ten), (kX3 gL u0 u1 u2 u3), (kX3 gR v0 v1 v2 v3), (kX4 aLa vLa l4 a4 n4), (kAI vLa cI 24 f4), (kAI vGe cI 23 f2), (kX2 aGe vGe l2 a2 n2), (kX7 aPa vPa l7 a7 n7), (kAI vPa cI 39 f7)]) hP hD rfl
        replace hD := hP.2
        replace hP := hP.1
        refine lv_aload_n hx₀ hb dX10_board_80 rfl (lv_at hl 0 rfl) ?_
        refine lv_iconst (v := 5) hx₀ hb dX10_board_81 (by decide +kernel) ?_
        refine lv_aload_n hx₀ hb dX10_board_82 rfl (lv_at hl 0 rfl) ?_
        refine va_get (D := (dC, dI)) (ci := 9) (v := .ref aPa) (C := RX10) (T := TX10) (N := 17) hx₀ hb hts inlX10 hown hK hP 0 rfl rfl 1 (by decide) (hts (.fieldLink RX10 31 "BittenStick$Trip" "passengers" "LBittenStick$Passengers;") wd_90) (fun _ h9 => h9) rfl dX10_board_83 ?_
        refine lv_iload_n hx₀ hb dX10_board_86 rfl (lv_at hl 1 rfl) ?_
        refine lv_iconst (v := 2) hx₀ hb dX10_board_87 (by decide +kernel) ?_
        obtain ⟨hPc, hDc, hFc, hC⟩ := k_cw (wc := [(kX7 aPa vPa l7 a7 n7), (kAI vPa cI 39 f7)]) hP hD hS hA [7, 8] (by decide +kernel) rfl
        refine va_calli (va_runV (As := [.int p1, .int 2]) (rest := [.int 5, .ref aTr]) ⟨hx₀, hb, hml, hown, hts⟩ (j_toldP l dC dI cI cJ cQ H.size aPa p1 2 vPa l7 a7 n7 f7) (cwV 2 hts (kGV wd_311 wd_464 wd_309 wd_310 wd_18) rfl rfl rfl (by decide +kernel) ⟨Nat.le_of_ble_eq_true rfl, Nat.le_of_ble_eq_true rfl⟩) (k_preV7 (q0 := 0) hK hPc hDc hN rfl) rfl rfl hl.1 rfl (lv_room (Nat.le_of_ble_eq_true rfl)) dX10_board_88 ⟨by decide +kernel, by decide +kernel⟩) hS (fun q _ h => hFc q h) hFc (fun r_9 u₀ t₀ H1 locs ht hvm hw hB hz1 hk1 hS => ?_)
        obtain ⟨hP1, hK1, hD1⟩ := hB
        rw [ht] at hP1
        have hJ := k_jn (wr := [(kX10 aTr aLa aPa aGe gL gR lf rt 1 0 (kAt 39 f7 ((5 * p1) + (0 : Int32))) (kAt 39 f7 ((5 * p1) + (1 : Int32))) tbe twe tle tan tco ten), (kX3 gL u0 u1 u2 u3), (kX3 gR v0 v1 v2 v3), (kX4 aLa vLa l4 a4 n4), (kAI vLa cI 24 f4), (kAI vGe cI 23 f2), (kX2 aGe vGe l2 a2 n2)]) (wt := [(kX10 aTr aLa aPa aGe gL gR lf rt 1 0 (kAt 39 f7 ((5 * p1) + (0 : Int32))) (kAt 39 f7 ((5 * p1) + (1 : Int32))) tbe twe tle tan tco ten), (kX3 gL u0 u1 u2 u3), (kX3 gR v0 v1 v2 v3), (kX4 aLa vLa l4 a4 n4), (kAI vLa cI 24 f4), (kAI vGe cI 23 f2), (kX2 aGe vGe l2 a2 n2), (kX7 aPa vPa l7 a7 n7), (kAI vPa cI 39 f7)]) hP hD hC [0, 1, 2, 3, 4, 5, 6] rfl (by decide +kernel) (by decide +kernel) hk1 hFc hP1 hD1 rfl
        clear hP hD hPc hDc hFc hC hP1 hD1 hK1 hz1 hk1 hvm ht
        obtain ⟨hP, hD⟩ := hJ
        generalize H1 = H at hP hS ⊢
        try dsimp only at hw
        refine k_topi (v := kAt 39 f7 ((5 * p1) + (2 : Int32))) hw ?_
        refine lv_imul hx₀ hb dX10_board_91 ?_
        refine va_put (D := (dC, dI)) (ci := 9) (v := .int (5 * (kAt 39 f7 ((5 * p1) + (2 : Int32))))) (ty := .int) (C := RX10) (T := TX10) (N := 17) hx₀ hb hts inlX10 tyX10 tyX10_ok nmX10 hown hK hP hD hS 0 rfl rfl 11 (by decide) (hts (.fieldLink RX10 66 "BittenStick$Trip" "bears" "I") wd_457) (fun _ h9 => h9) rfl (by decide +kernel) rfl rfl (Nat.le_of_ble_eq_true rfl) dX10_board_92 ?_
        clear hP hD hS
        intro H locs hP hD hS
        replace hP := k_w2 (wt := [(kX10 aTr aLa aPa aGe gL gR lf rt 1 0 (kAt 39 f7 ((5 * p1) + (0 : Int32))) (kAt 39 f7 ((5 * p1) + (1 : Int32))) (5 * (kAt 39 f7 ((5 * p1) + (2 : Int32)))) twe tle tan tco ten), (kX3 gL u0 u1 u2 u3), (kX3 gR v0 v1 v2 v3), (kX4 aLa vLa l4 a4 n4), (kAI vLa cI 24 f4), (kAI vGe cI 23 f2), (kX2 aGe vGe l2 a2 n2), (kX7 aPa vPa l7 a7 n7), (kAI vPa cI 39 f7)]) hP hD rfl
        replace hD := hP.2
        replace hP := hP.1
        refine lv_aload_n hx₀ hb dX10_board_95 rfl (lv_at hl 0 rfl) ?_
        refine lv_aload_n hx₀ hb dX10_board_96 rfl (lv_at hl 0 rfl) ?_
        refine va_get (D := (dC, dI)) (ci := 9) (v := .ref aPa) (C := RX10) (T := TX10) (N := 17) hx₀ hb hts inlX10 hown hK hP 0 rfl rfl 1 (by decide) (hts (.fieldLink RX10 31 "BittenStick$Trip" "passengers" "LBittenStick$Passengers;") wd_90) (fun _ h9 => h9) rfl dX10_board_97 ?_
        refine lv_iload_n hx₀ hb dX10_board_100 rfl (lv_at hl 1 rfl) ?_
        refine lv_iconst (v := 3) hx₀ hb dX10_board_101 (by decide +kernel) ?_
        obtain ⟨hPc, hDc, hFc, hC⟩ := k_cw (wc := [(kX7 aPa vPa l7 a7 n7), (kAI vPa cI 39 f7)]) hP hD hS hA [7, 8] (by decide +kernel) rfl
        refine va_calli (va_runV (As := [.int p1, .int 3]) (rest := [.ref aTr]) ⟨hx₀, hb, hml, hown, hts⟩ (j_toldP l dC dI cI cJ cQ H.size aPa p1 3 vPa l7 a7 n7 f7) (cwV 2 hts (kGV wd_311 wd_464 wd_309 wd_310 wd_18) rfl rfl rfl (by decide +kernel) ⟨Nat.le_of_ble_eq_true rfl, Nat.le_of_ble_eq_true rfl⟩) (k_preV7 (q0 := 0) hK hPc hDc hN rfl) rfl rfl hl.1 rfl (lv_room (Nat.le_of_ble_eq_true rfl)) dX10_board_102 ⟨by decide +kernel, by decide +kernel⟩) hS (fun q _ h => hFc q h) hFc (fun r_10 u₀ t₀ H1 locs ht hvm hw hB hz1 hk1 hS => ?_)
        obtain ⟨hP1, hK1, hD1⟩ := hB
        rw [ht] at hP1
        have hJ := k_jn (wr := [(kX10 aTr aLa aPa aGe gL gR lf rt 1 0 (kAt 39 f7 ((5 * p1) + (0 : Int32))) (kAt 39 f7 ((5 * p1) + (1 : Int32))) (5 * (kAt 39 f7 ((5 * p1) + (2 : Int32)))) twe tle tan tco ten), (kX3 gL u0 u1 u2 u3), (kX3 gR v0 v1 v2 v3), (kX4 aLa vLa l4 a4 n4), (kAI vLa cI 24 f4), (kAI vGe cI 23 f2), (kX2 aGe vGe l2 a2 n2)]) (wt := [(kX10 aTr aLa aPa aGe gL gR lf rt 1 0 (kAt 39 f7 ((5 * p1) + (0 : Int32))) (kAt 39 f7 ((5 * p1) + (1 : Int32))) (5 * (kAt 39 f7 ((5 * p1) + (2 : Int32)))) twe tle tan tco ten), (kX3 gL u0 u1 u2 u3), (kX3 gR v0 v1 v2 v3), (kX4 aLa vLa l4 a4 n4), (kAI vLa cI 24 f4), (kAI vGe cI 23 f2), (kX2 aGe vGe l2 a2 n2), (kX7 aPa vPa l7 a7 n7), (kAI vPa cI 39 f7)]) hP hD hC [0, 1, 2, 3, 4, 5, 6] rfl (by decide +kernel) (by decide +kernel) hk1 hFc hP1 hD1 rfl
        clear hP hD hPc hDc hFc hC hP1 hD1 hK1 hz1 hk1 hvm ht
        obtain ⟨hP, hD⟩ := hJ
        generalize H1 = H at hP hS ⊢
        try dsimp only at hw
        refine k_topi (v := kAt 39 f7 ((5 * p1) + (3 : Int32))) hw ?_
        refine va_put (D := (dC, dI)) (ci := 9) (v := .int (kAt 39 f7 ((5 * p1) + (3 : Int32)))) (ty := .int) (C := RX10) (T := TX10) (N := 17) hx₀ hb hts inlX10 tyX10 tyX10_ok nmX10 hown hK hP hD hS 0 rfl rfl 12 (by decide) (hts (.fieldLink RX10 69 "BittenStick$Trip" "weight" "I") wd_458) (fun _ h9 => h9) rfl (by decide +kernel) rfl rfl (Nat.le_of_ble_eq_true rfl) dX10_board_105 ?_
        clear hP hD hS
        intro H locs hP hD hS
        replace hP := k_w2 (wt := [(kX10 aTr aLa aPa aGe gL gR lf rt 1 0 (kAt 39 f7 ((5 * p1) + (0 : Int32))) (kAt 39 f7 ((5 * p1) + (1 : Int32))) (5 * (kAt 39 f7 ((5 * p1) + (2 : Int32)))) (kAt 39 f7 ((5 * p1) + (3 : Int32))) tle tan tco ten), (kX3 gL u0 u1 u2 u3), (kX3 gR v0 v1 v2 v3), (kX4 aLa vLa l4 a4 n4), (kAI vLa cI 24 f4), (kAI vGe cI 23 f2), (kX2 aGe vGe l2 a2 n2), (kX7 aPa vPa l7 a7 n7), (kAI vPa cI 39 f7)]) hP hD rfl
        replace hD := hP.2
        replace hP := hP.1
        refine lv_aload_n hx₀ hb dX10_board_108 rfl (lv_at hl 0 rfl) ?_
        refine va_get (D := (dC, dI)) (ci := 9) (v := .ref gL) (C := RX10) (T := TX10) (N := 17) hx₀ hb hts inlX10 hown hK hP 0 rfl rfl 3 (by decide) (hts (.fieldLink RX10 12 "BittenStick$Trip" "toldLeft" "LBittenStick$Goose;") wd_85) (fun _ h9 => h9) rfl dX10_board_109 ?_
        refine lv_aload_n hx₀ hb dX10_board_112 rfl (lv_at hl 0 rfl) ?_
        refine va_get (D := (dC, dI)) (ci := 9) (v := .ref aGe) (C := RX10) (T := TX10) (N := 17) hx₀ hb hts inlX10 hown hK hP 0 rfl rfl 2 (by decide) (hts (.fieldLink RX10 35 "BittenStick$Trip" "geese" "LBittenStick$Geese;") wd_91) (fun _ h9 => h9) rfl dX10_board_113 ?_
        refine lv_iload_n hx₀ hb dX10_board_116 rfl (lv_at hl 2 rfl) ?_
        refine lv_iconst (v := 0) hx₀ hb dX10_board_117 (by decide +kernel) ?_
        obtain ⟨hPc, hDc, hFc, hC⟩ := k_cw (wc := [(kX2 aGe vGe l2 a2 n2), (kAI vGe cI 23 f2)]) hP hD hS hA [6, 5] (by decide +kernel) rfl
        refine va_calli (va_runV (As := [.int q1, .int 0]) (rest := [.ref gL]) ⟨hx₀, hb, hml, hown, hts⟩ (j_toldG l dC dI cI cJ cQ H.size aGe q1 0 vGe l2 a2 n2 f2) (cwV 2 hts (kGV wd_334 wd_465 wd_332 wd_333 wd_22) rfl rfl rfl (by decide +kernel) ⟨Nat.le_of_ble_eq_true rfl, Nat.le_of_ble_eq_true rfl⟩) (k_preV2 (q0 := 0) hK hPc hDc hN rfl) rfl rfl hl.1 rfl (lv_room (Nat.le_of_ble_eq_true rfl)) dX10_board_118 ⟨by decide +kernel, by decide +kernel⟩) hS (fun q _ h => hFc q h) hFc (fun r_11 u₀ t₀ H1 locs ht hvm hw hB hz1 hk1 hS => ?_)
        obtain ⟨hP1, hK1, hD1⟩ := hB
        rw [ht] at hP1
        have hJ := k_jn (wr := [(kX10 aTr aLa aPa aGe gL gR lf rt 1 0 (kAt 39 f7 ((5 * p1) + (0 : Int32))) (kAt 39 f7 ((5 * p1) + (1 : Int32))) (5 * (kAt 39 f7 ((5 * p1) + (2 : Int32)))) (kAt 39 f7 ((5 * p1) + (3 : Int32))) tle tan tco ten), (kX3 gL u0 u1 u2 u3), (kX3 gR v0 v1 v2 v3), (kX4 aLa vLa l4 a4 n4), (kAI vLa cI 24 f4), (kX7 aPa vPa l7 a7 n7), (kAI vPa cI 39 f7)]) (wt := [(kX10 aTr aLa aPa aGe gL gR lf rt 1 0 (kAt 39 f7 ((5 * p1) + (0 : Int32))) (kAt 39 f7 ((5 * p1) + (1 : Int32))) (5 * (kAt 39 f7 ((5 * p1) + (2 : Int32)))) (kAt 39 f7 ((5 * p1) + (3 : Int32))) tle tan tco ten), (kX3 gL u0 u1 u2 u3), (kX3 gR v0 v1 v2 v3), (kX4 aLa vLa l4 a4 n4), (kAI vLa cI 24 f4), (kX7 aPa vPa l7 a7 n7), (kAI vPa cI 39 f7), (kX2 aGe vGe l2 a2 n2), (kAI vGe cI 23 f2)]) hP hD hC [0, 1, 2, 3, 4, 7, 8] rfl (by decide +kernel) (by decide +kernel) hk1 hFc hP1 hD1 rfl
        clear hP hD hPc hDc hFc hC hP1 hD1 hK1 hz1 hk1 hvm ht
        obtain ⟨hP, hD⟩ := hJ
        generalize H1 = H at hP hS ⊢
        try dsimp only at hw
        refine k_topi (v := kAt 23 f2 ((3 * q1) + (0 : Int32))) hw ?_
        refine va_put (D := (dC, dI)) (ci := 3) (v := .int (kAt 23 f2 ((3 * q1) + (0 : Int32)))) (ty := .int) (C := RX3) (T := TX3) (N := 4) hx₀ hb hts inlX3 tyX3 tyX3_ok nmX3 hown hK hP hD hS 1 rfl rfl 0 (by decide) (hts (.fieldLink RX10 73 "BittenStick$Goose" "told" "I") wd_459) (fun _ h9 => h9) rfl (by decide +kernel) rfl rfl (Nat.le_of_ble_eq_true rfl) dX10_board_121 ?_
        clear hP hD hS
        intro H locs hP hD hS
        replace hP := k_w2 (wt := [(kX10 aTr aLa aPa aGe gL gR lf rt 1 0 (kAt 39 f7 ((5 * p1) + (0 : Int32))) (kAt 39 f7 ((5 * p1) + (1 : Int32))) (5 * (kAt 39 f7 ((5 * p1) + (2 : Int32)))) (kAt 39 f7 ((5 * p1) + (3 : Int32))) tle tan tco ten), (kX3 gL (kAt 23 f2 ((3 * q1) + (0 : Int32))) u1 u2 u3), (kX3 gR v0 v1 v2 v3), (kX4 aLa vLa l4 a4 n4), (kAI vLa cI 24 f4), (kX7 aPa vPa l7 a7 n7), (kAI vPa cI 39 f7), (kX2 aGe vGe l2 a2 n2), (kAI vGe cI 23 f2)]) hP hD rfl
        replace hD := hP.2
        replace hP := hP.1
        refine lv_aload_n hx₀ hb dX10_board_124 rfl (lv_at hl 0 rfl) ?_
        refine va_get (D := (dC, dI)) (ci := 9) (v := .ref gL) (C := RX10) (T := TX10) (N := 17) hx₀ hb hts inlX10 hown hK hP 0 rfl rfl 3 (by decide) (hts (.fieldLink RX10 12 "BittenStick$Trip" "toldLeft" "LBittenStick$Goose;") wd_85) (fun _ h9 => h9) rfl dX10_board_125 ?_
        refine lv_aload_n hx₀ hb dX10_board_128 rfl (lv_at hl 0 rfl) ?_
        refine va_get (D := (dC, dI)) (ci := 9) (v := .ref aGe) (C := RX10) (T := TX10) (N := 17) hx₀ hb hts inlX10 hown hK hP 0 rfl rfl 2 (by decide) (hts (.fieldLink RX10 35 "BittenStick$Trip" "geese" "LBittenStick$Geese;") wd_91) (fun _ h9 => h9) rfl dX10_board_129 ?_
        refine lv_iload_n hx₀ hb dX10_board_132 rfl (lv_at hl 2 rfl) ?_
        refine lv_iconst (v := 1) hx₀ hb dX10_board_133 (by decide +kernel) ?_
        obtain ⟨hPc, hDc, hFc, hC⟩ := k_cw (wc := [(kX2 aGe vGe l2 a2 n2), (kAI vGe cI 23 f2)]) hP hD hS hA [7, 8] (by decide +kernel) rfl
        refine va_calli (va_runV (As := [.int q1, .int 1]) (rest := [.ref gL]) ⟨hx₀, hb, hml, hown, hts⟩ (j_toldG l dC dI cI cJ cQ H.size aGe q1 1 vGe l2 a2 n2 f2) (cwV 2 hts (kGV wd_334 wd_465 wd_332 wd_333 wd_22) rfl rfl rfl (by decide +kernel) ⟨Nat.le_of_ble_eq_true rfl, Nat.le_of_ble_eq_true rfl⟩) (k_preV2 (q0 := 0) hK hPc hDc hN rfl) rfl rfl hl.1 rfl (lv_room (Nat.le_of_ble_eq_true rfl)) dX10_board_134 ⟨by decide +kernel, by decide +kernel⟩) hS (fun q _ h => hFc q h) hFc (fun r_12 u₀ t₀ H1 locs ht hvm hw hB hz1 hk1 hS => ?_)
        obtain ⟨hP1, hK1, hD1⟩ := hB
        rw [ht] at hP1
        have hJ := k_jn (wr := [(kX10 aTr aLa aPa aGe gL gR lf rt 1 0 (kAt 39 f7 ((5 * p1) + (0 : Int32))) (kAt 39 f7 ((5 * p1) + (1 : Int32))) (5 * (kAt 39 f7 ((5 * p1) + (2 : Int32)))) (kAt 39 f7 ((5 * p1) + (3 : Int32))) tle tan tco ten), (kX3 gL (kAt 23 f2 ((3 * q1) + (0 : Int32))) u1 u2 u3), (kX3 gR v0 v1 v2 v3), (kX4 aLa vLa l4 a4 n4), (kAI vLa cI 24 f4), (kX7 aPa vPa l7 a7 n7), (kAI vPa cI 39 f7)]) (wt := [(kX10 aTr aLa aPa aGe gL gR lf rt 1 0 (kAt 39 f7 ((5 * p1) + (0 : Int32))) (kAt 39 f7 ((5 * p1) + (1 : Int32))) (5 * (kAt 39 f7 ((5 * p1) + (2 : Int32)))) (kAt 39 f7 ((5 * p1) + (3 : Int32))) tle tan tco ten), (kX3 gL (kAt 23 f2 ((3 * q1) + (0 : Int32))) u1 u2 u3), (kX3 gR v0 v1 v2 v3), (kX4 aLa vLa l4 a4 n4), (kAI vLa cI 24 f4), (kX7 aPa vPa l7 a7 n7), (kAI vPa cI 39 f7), (kX2 aGe vGe l2 a2 n2), (kAI vGe cI 23 f2)]) hP hD hC [0, 1, 2, 3, 4, 5, 6] rfl (by decide +kernel) (by decide +kernel) hk1 hFc hP1 hD1 rfl
        clear hP hD hPc hDc hFc hC hP1 hD1 hK1 hz1 hk1 hvm ht
        obtain ⟨hP, hD⟩ := hJ
        generalize H1 = H at hP hS ⊢
        try dsimp only at hw
        refine k_topi (v := kAt 23 f2 ((3 * q1) + (1 : Int32))) hw ?_
        refine va_put (D := (dC, dI)) (ci := 3) (v := .int (kAt 23 f2 ((3 * q1) + (1 : Int32)))) (ty := .int) (C := RX3) (T := TX3) (N := 4) hx₀ hb hts inlX3 tyX3 tyX3_ok nmX3 hown hK hP hD hS 1 rfl rfl 1 (by decide) (hts (.fieldLink RX10 75 "BittenStick$Goose" "tires" "I") wd_460) (fun _ h9 => h9) rfl (by decide +kernel) rfl rfl (Nat.le_of_ble_eq_true rfl) dX10_board_137 ?_
        clear hP hD hS
        intro H locs hP hD hS
        replace hP := k_w2 (wt := [(kX10 aTr aLa aPa aGe gL gR lf rt 1 0 (kAt 39 f7 ((5 * p1) + (0 : Int32))) (kAt 39 f7 ((5 * p1) + (1 : Int32))) (5 * (kAt 39 f7 ((5 * p1) + (2 : Int32)))) (kAt 39 f7 ((5 * p1) + (3 : Int32))) tle tan tco ten), (kX3 gL (kAt 23 f2 ((3 * q1) + (0 : Int32))) (kAt 23 f2 ((3 * q1) + (1 : Int32))) u2 u3), (kX3 gR v0 v1 v2 v3), (kX4 aLa vLa l4 a4 n4), (kAI vLa cI 24 f4), (kX7 aPa vPa l7 a7 n7), (kAI vPa cI 39 f7), (kX2 aGe vGe l2 a2 n2), (kAI vGe cI 23 f2)]) hP hD rfl
        replace hD := hP.2
        replace hP := hP.1
        refine lv_aload_n hx₀ hb dX10_board_140 rfl (lv_at hl 0 rfl) ?_
        refine va_get (D := (dC, dI)) (ci := 9) (v := .ref gR) (C := RX10) (T := TX10) (N := 17) hx₀ hb hts inlX10 hown hK hP 0 rfl rfl 4 (by decide) (hts (.fieldLink RX10 18 "BittenStick$Trip" "toldRight" "LBittenStick$Goose;") wd_86) (fun _ h9 => h9) rfl dX10_board_141 ?_
        refine lv_aload_n hx₀ hb dX10_board_144 rfl (lv_at hl 0 rfl) ?_
        refine va_get (D := (dC, dI)) (ci := 9) (v := .ref aGe) (C := RX10) (T := TX10) (N := 17) hx₀ hb hts inlX10 hown hK hP 0 rfl rfl 2 (by decide) (hts (.fieldLink RX10 35 "BittenStick$Trip" "geese" "LBittenStick$Geese;") wd_91) (fun _ h9 => h9) rfl dX10_board_145 ?_
        refine lv_iload_n hx₀ hb dX10_board_148 rfl (lv_at hl 3 rfl) ?_
        refine lv_iconst (v := 0) hx₀ hb dX10_board_149 (by decide +kernel) ?_
        obtain ⟨hPc, hDc, hFc, hC⟩ := k_cw (wc := [(kX2 aGe vGe l2 a2 n2), (kAI vGe cI 23 f2)]) hP hD hS hA [7, 8] (by decide +kernel) rfl
        refine va_calli (va_runV (As := [.int r1, .int 0]) (rest := [.ref gR]) ⟨hx₀, hb, hml, hown, hts⟩ (j_toldG l dC dI cI cJ cQ H.size aGe r1 0 vGe l2 a2 n2 f2) (cwV 2 hts (kGV wd_334 wd_465 wd_332 wd_333 wd_22) rfl rfl rfl (by decide +kernel) ⟨Nat.le_of_ble_eq_true rfl, Nat.le_of_ble_eq_true rfl⟩) (k_preV2 (q0 := 0) hK hPc hDc hN rfl) rfl rfl hl.1 rfl (lv_room (Nat.le_of_ble_eq_true rfl)) dX10_board_150 ⟨by decide +kernel, by decide +kernel⟩) hS (fun q _ h => hFc q h) hFc (fun r_13 u₀ t₀ H1 locs ht hvm hw hB hz1 hk1 hS => ?_)
        obtain ⟨hP1, hK1, hD1⟩ := hB
        rw [ht] at hP1
        have hJ := k_jn (wr := [(kX10 aTr aLa aPa aGe gL gR lf rt 1 0 (kAt 39 f7 ((5 * p1) + (0 : Int32))) (kAt 39 f7 ((5 * p1) + (1 : Int32))) (5 * (kAt 39 f7 ((5 * p1) + (2 : Int32)))) (kAt 39 f7 ((5 * p1) + (3 : Int32))) tle tan tco ten), (kX3 gL (kAt 23 f2 ((3 * q1) + (0 : Int32))) (kAt 23 f2 ((3 * q1) + (1 : Int32))) u2 u3), (kX3 gR v0 v1 v2 v3), (kX4 aLa vLa l4 a4 n4), (kAI vLa cI 24 f4), (kX7 aPa vPa l7 a7 n7), (kAI vPa cI 39 f7)]) (wt := [(kX10 aTr aLa aPa aGe gL gR lf rt 1 0 (kAt 39 f7 ((5 * p1) + (0 : Int32))) (kAt 39 f7 ((5 * p1) + (1 : Int32))) (5 * (kAt 39 f7 ((5 * p1) + (2 : Int32)))) (kAt 39 f7 ((5 * p1) + (3 : Int32))) tle tan tco ten), (kX3 gL (kAt 23 f2 ((3 * q1) + (0 : Int32))) (kAt 23 f2 ((3 * q1) + (1 : Int32))) u2 u3), (kX3 gR v0 v1 v2 v3), (kX4 aLa vLa l4 a4 n4), (kAI vLa cI 24 f4), (kX7 aPa vPa l7 a7 n7), (kAI vPa cI 39 f7), (kX2 aGe vGe l2 a2 n2), (kAI vGe cI 23 f2)]) hP hD hC [0, 1, 2, 3, 4, 5, 6] rfl (by decide +kernel) (by decide +kernel) hk1 hFc hP1 hD1 rfl
        clear hP hD hPc hDc hFc hC hP1 hD1 hK1 hz1 hk1 hvm ht
        obtain ⟨hP, hD⟩ := hJ
        generalize H1 = H at hP hS ⊢
        try dsimp only at hw
        refine k_topi (v := kAt 23 f2 ((3 * r1) + (0 : Int32))) hw ?_
        refine va_put (D := (dC, dI)) (ci := 3) (v := .int (kAt 23 f2 ((3 * r1) + (0 : Int32)))) (ty := .int) (C := RX3) (T := TX3) (N := 4) hx₀ hb hts inlX3 tyX3 tyX3_ok nmX3 hown hK hP hD hS 2 rfl rfl 0 (by decide) (hts (.fieldLink RX10 73 "BittenStick$Goose" "told" "I") wd_459) (fun _ h9 => h9) rfl (by decide +kernel) rfl rfl (Nat.le_of_ble_eq_true rfl) dX10_board_153 ?_
        clear hP hD hS
        intro H locs hP hD hS
        replace hP := k_w2 (wt := [(kX10 aTr aLa aPa aGe gL gR lf rt 1 0 (kAt 39 f7 ((5 * p1) + (0 : Int32))) (kAt 39 f7 ((5 * p1) + (1 : Int32))) (5 * (kAt 39 f7 ((5 * p1) + (2 : Int32)))) (kAt 39 f7 ((5 * p1) + (3 : Int32))) tle tan tco ten), (kX3 gL (kAt 23 f2 ((3 * q1) + (0 : Int32))) (kAt 23 f2 ((3 * q1) + (1 : Int32))) u2 u3), (kX3 gR (kAt 23 f2 ((3 * r1) + (0 : Int32))) v1 v2 v3), (kX4 aLa vLa l4 a4 n4), (kAI vLa cI 24 f4), (kX7 aPa vPa l7 a7 n7), (kAI vPa cI 39 f7), (kX2 aGe vGe l2 a2 n2), (kAI vGe cI 23 f2)]) hP hD rfl
        replace hD := hP.2
        replace hP := hP.1
        refine lv_aload_n hx₀ hb dX10_board_156 rfl (lv_at hl 0 rfl) ?_
        refine va_get (D := (dC, dI)) (ci := 9) (v := .ref gR) (C := RX10) (T := TX10) (N := 17) hx₀ hb hts inlX10 hown hK hP 0 rfl rfl 4 (by decide) (hts (.fieldLink RX10 18 "BittenStick$Trip" "toldRight" "LBittenStick$Goose;") wd_86) (fun _ h9 => h9) rfl dX10_board_157 ?_
        refine lv_aload_n hx₀ hb dX10_board_160 rfl (lv_at hl 0 rfl) ?_
        refine va_get (D := (dC, dI)) (ci := 9) (v := .ref aGe) (C := RX10) (T := TX10) (N := 17) hx₀ hb hts inlX10 hown hK hP 0 rfl rfl 2 (by decide) (hts (.fieldLink RX10 35 "BittenStick$Trip" "geese" "LBittenStick$Geese;") wd_91) (fun _ h9 => h9) rfl dX10_board_161 ?_
        refine lv_iload_n hx₀ hb dX10_board_164 rfl (lv_at hl 3 rfl) ?_
        refine lv_iconst (v := 1) hx₀ hb dX10_board_165 (by decide +kernel) ?_
        obtain ⟨hPc, hDc, hFc, hC⟩ := k_cw (wc := [(kX2 aGe vGe l2 a2 n2), (kAI vGe cI 23 f2)]) hP hD hS hA [7, 8] (by decide +kernel) rfl
        refine va_calli (va_runV (As := [.int r1, .int 1]) (rest := [.ref gR]) ⟨hx₀, hb, hml, hown, hts⟩ (j_toldG l dC dI cI cJ cQ H.size aGe r1 1 vGe l2 a2 n2 f2) (cwV 2 hts (kGV wd_334 wd_465 wd_332 wd_333 wd_22) rfl rfl rfl (by decide +kernel) ⟨Nat.le_of_ble_eq_true rfl, Nat.le_of_ble_eq_true rfl⟩) (k_preV2 (q0 := 0) hK hPc hDc hN rfl) rfl rfl hl.1 rfl (lv_room (Nat.le_of_ble_eq_true rfl)) dX10_board_166 ⟨by decide +kernel, by decide +kernel⟩) hS (fun q _ h => hFc q h) hFc (fun r_14 u₀ t₀ H1 locs ht hvm hw hB hz1 hk1 hS => ?_)
        obtain ⟨hP1, hK1, hD1⟩ := hB
        rw [ht] at hP1
        have hJ := k_jn (wr := [(kX10 aTr aLa aPa aGe gL gR lf rt 1 0 (kAt 39 f7 ((5 * p1) + (0 : Int32))) (kAt 39 f7 ((5 * p1) + (1 : Int32))) (5 * (kAt 39 f7 ((5 * p1) + (2 : Int32)))) (kAt 39 f7 ((5 * p1) + (3 : Int32))) tle tan tco ten), (kX3 gL (kAt 23 f2 ((3 * q1) + (0 : Int32))) (kAt 23 f2 ((3 * q1) + (1 : Int32))) u2 u3), (kX3 gR (kAt 23 f2 ((3 * r1) + (0 : Int32))) v1 v2 v3), (kX4 aLa vLa l4 a4 n4), (kAI vLa cI 24 f4), (kX7 aPa vPa l7 a7 n7), (kAI vPa cI 39 f7)]) (wt := [(kX10 aTr aLa aPa aGe gL gR lf rt 1 0 (kAt 39 f7 ((5 * p1) + (0 : Int32))) (kAt 39 f7 ((5 * p1) + (1 : Int32))) (5 * (kAt 39 f7 ((5 * p1) + (2 : Int32)))) (kAt 39 f7 ((5 * p1) + (3 : Int32))) tle tan tco ten), (kX3 gL (kAt 23 f2 ((3 * q1) + (0 : Int32))) (kAt 23 f2 ((3 * q1) + (1 : Int32))) u2 u3), (kX3 gR (kAt 23 f2 ((3 * r1) + (0 : Int32))) v1 v2 v3), (kX4 aLa vLa l4 a4 n4), (kAI vLa cI 24 f4), (kX7 aPa vPa l7 a7 n7), (kAI vPa cI 39 f7), (kX2 aGe vGe l2 a2 n2), (kAI vGe cI 23 f2)]) hP hD hC [0, 1, 2, 3, 4, 5, 6] rfl (by decide +kernel) (by decide +kernel) hk1 hFc hP1 hD1 rfl
        clear hP hD hPc hDc hFc hC hP1 hD1 hK1 hz1 hk1 hvm ht
        obtain ⟨hP, hD⟩ := hJ
        generalize H1 = H at hP hS ⊢
        try dsimp only at hw
        refine k_topi (v := kAt 23 f2 ((3 * r1) + (1 : Int32))) hw ?_
        refine va_put (D := (dC, dI)) (ci := 3) (v := .int (kAt 23 f2 ((3 * r1) + (1 : Int32)))) (ty := .int) (C := RX3) (T := TX3) (N := 4) hx₀ hb hts inlX3 tyX3 tyX3_ok nmX3 hown hK hP hD hS 2 rfl rfl 1 (by decide) (hts (.fieldLink RX10 75 "BittenStick$Goose" "tires" "I") wd_460) (fun _ h9 => h9) rfl (by decide +kernel) rfl rfl (Nat.le_of_ble_eq_true rfl) dX10_board_169 ?_
        clear hP hD hS
        intro H locs hP hD hS
        replace hP := k_w2 (wt := [(kX10 aTr aLa aPa aGe gL gR lf rt 1 0 (kAt 39 f7 ((5 * p1) + (0 : Int32))) (kAt 39 f7 ((5 * p1) + (1 : Int32))) (5 * (kAt 39 f7 ((5 * p1) + (2 : Int32)))) (kAt 39 f7 ((5 * p1) + (3 : Int32))) tle tan tco ten), (kX3 gL (kAt 23 f2 ((3 * q1) + (0 : Int32))) (kAt 23 f2 ((3 * q1) + (1 : Int32))) u2 u3), (kX3 gR (kAt 23 f2 ((3 * r1) + (0 : Int32))) (kAt 23 f2 ((3 * r1) + (1 : Int32))) v2 v3), (kX4 aLa vLa l4 a4 n4), (kAI vLa cI 24 f4), (kX7 aPa vPa l7 a7 n7), (kAI vPa cI 39 f7), (kX2 aGe vGe l2 a2 n2), (kAI vGe cI 23 f2)]) hP hD rfl
        replace hD := hP.2
        replace hP := hP.1
        refine lv_aload_n hx₀ hb dX10_board_172 rfl (lv_at hl 0 rfl) ?_
        refine lv_aload_n hx₀ hb dX10_board_173 rfl (lv_at hl 0 rfl) ?_
        refine lv_aload_n hx₀ hb dX10_board_174 rfl (lv_at hl 0 rfl) ?_
        refine va_get (D := (dC, dI)) (ci := 9) (v := .ref aLa) (C := RX10) (T := TX10) (N := 17) hx₀ hb hts inlX10 hown hK hP 0 rfl rfl 0 (by decide) (hts (.fieldLink RX10 27 "BittenStick$Trip" "land" "LBittenStick$Land;") wd_89) (fun _ h9 => h9) rfl dX10_board_175 ?_
        refine va_get (D := (dC, dI)) (ci := 4) (v := .int n4) (C := RX4) (T := TX4) (N := 4) hx₀ hb hts inlX4 hown hK hP 3 rfl rfl 3 (by decide) (hts (.fieldLink RX10 78 "BittenStick$Land" "number" "I") wd_461) (fun x9 h9 => u_same (hts (.sameField "BittenStick$Land" "BittenStick$Text" "number" "I") wd_286) x9 h9) rfl dX10_board_178 ?_
        refine lv_iconst (v := 1) hx₀ hb dX10_board_181 (by decide +kernel) ?_
        refine lv_isub hx₀ hb dX10_board_182 ?_
        refine lv_iconst (v := 1) hx₀ hb dX10_board_183 (by decide +kernel) ?_
        obtain ⟨hPc, hDc, hFc, hC⟩ := k_cw (wc := [(kX10 aTr aLa aPa aGe gL gR lf rt 1 0 (kAt 39 f7 ((5 * p1) + (0 : Int32))) (kAt 39 f7 ((5 * p1) + (1 : Int32))) (5 * (kAt 39 f7 ((5 * p1) + (2 : Int32)))) (kAt 39 f7 ((5 * p1) + (3 : Int32))) tle tan tco ten), (kX3 gL (kAt 23 f2 ((3 * q1) + (0 : Int32))) (kAt 23 f2 ((3 * q1) + (1 : Int32))) u2 u3), (kX3 gR (kAt 23 f2 ((3 * r1) + (0 : Int32))) (kAt 23 f2 ((3 * r1) + (1 : Int32))) v2 v3), (kX4 aLa vLa l4 a4 n4), (kAI vLa cI 24 f4)]) hP hD hS hA [0, 1, 2, 3, 4] (by decide +kernel) rfl
        refine va_calli (va_runV (As := [.int (n4 - 1), .int 1]) (rest := [.ref aTr]) ⟨hx₀, hb, hml, hown, hts⟩ (j_flyGeese l dC dI cI cJ cQ H.size aTr (n4 - 1) 1 aLa aPa aGe gL gR lf rt 1 0 (kAt 39 f7 ((5 * p1) + (0 : Int32))) (kAt 39 f7 ((5 * p1) + (1 : Int32))) (5 * (kAt 39 f7 ((5 * p1) + (2 : Int32)))) (kAt 39 f7 ((5 * p1) + (3 : Int32))) tle tan tco ten (kAt 23 f2 ((3 * q1) + (0 : Int32))) (kAt 23 f2 ((3 * q1) + (1 : Int32))) u2 u3 (kAt 23 f2 ((3 * r1) + (0 : Int32))) (kAt 23 f2 ((3 * r1) + (1 : Int32))) v2 v3 vLa l4 a4 n4 f4 (lf_j_board_1 n4 hh0)) (cwV 2 hts (kGV wd_469 wd_466 wd_467 wd_468 wd_30) rfl rfl rfl (by decide +kernel) ⟨Nat.le_of_ble_eq_true rfl, Nat.le_of_ble_eq_true rfl⟩) (k_preV9 (q0 := 0) hK hPc hDc hN rfl) rfl rfl hl.1 rfl (lv_room (Nat.le_of_ble_eq_true rfl)) dX10_board_184 ⟨by decide +kernel, by decide +kernel⟩) hS (fun q _ h => hFc q h) hFc (fun r_15 u₀ t₀ H1 locs ht hvm hw hB hz1 hk1 hS => ?_)
        obtain ⟨g_16, ga_17, gl_18, gb_19, gp_20⟩ := u₀
        obtain ⟨hP1, hK1, hD1⟩ := hB
        rw [ht] at hP1
        have hJ := k_jn (wr := [(kX7 aPa vPa l7 a7 n7), (kAI vPa cI 39 f7), (kX2 aGe vGe l2 a2 n2), (kAI vGe cI 23 f2)]) (wt := [(kX7 aPa vPa l7 a7 n7), (kAI vPa cI 39 f7), (kX2 aGe vGe l2 a2 n2), (kAI vGe cI 23 f2), (kX10 aTr aLa aPa aGe gL gR (gp_20 0) (gp_20 1) 1 0 (kAt 39 f7 ((5 * p1) + (0 : Int32))) (kAt 39 f7 ((5 * p1) + (1 : Int32))) (5 * (kAt 39 f7 ((5 * p1) + (2 : Int32)))) (kAt 39 f7 ((5 * p1) + (3 : Int32))) tle tan tco ten), (kX3 gL (g_16 0) (g_16 1) (g_16 2) (g_16 3)), (kX3 gR (g_16 4) (g_16 5) (g_16 6) (g_16 7)), (kX4 aLa vLa l4 a4 n4), (kAI vLa cI 24 f4)]) hP hD hC [5, 6, 7, 8] rfl (by decide +kernel) (by decide +kernel) hk1 hFc hP1 hD1 rfl
        clear hP hD hPc hDc hFc hC hP1 hD1 hK1 hz1 hk1 hvm ht
        obtain ⟨hP, hD⟩ := hJ
        generalize H1 = H at hP hS ⊢
        try dsimp only at hw
        obtain ⟨c_21, c_22⟩ := hw
        refine va_put (D := (dC, dI)) (ci := 9) (v := .int r_15) (ty := .int) (C := RX10) (T := TX10) (N := 17) hx₀ hb hts inlX10 tyX10 tyX10_ok nmX10 hown hK hP hD hS 4 rfl rfl 8 (by decide) (hts (.fieldLink RX10 52 "BittenStick$Trip" "carriedTo" "I") wd_454) (fun _ h9 => h9) rfl (by decide +kernel) rfl rfl (Nat.le_of_ble_eq_true rfl) dX10_board_187 ?_
        clear hP hD hS
        intro H locs hP hD hS
        replace hP := k_w2 (wt := [(kX7 aPa vPa l7 a7 n7), (kAI vPa cI 39 f7), (kX2 aGe vGe l2 a2 n2), (kAI vGe cI 23 f2), (kX10 aTr aLa aPa aGe gL gR (gp_20 0) (gp_20 1) 1 r_15 (kAt 39 f7 ((5 * p1) + (0 : Int32))) (kAt 39 f7 ((5 * p1) + (1 : Int32))) (5 * (kAt 39 f7 ((5 * p1) + (2 : Int32)))) (kAt 39 f7 ((5 * p1) + (3 : Int32))) tle tan tco ten), (kX3 gL (g_16 0) (g_16 1) (g_16 2) (g_16 3)), (kX3 gR (g_16 4) (g_16 5) (g_16 6) (g_16 7)), (kX4 aLa vLa l4 a4 n4), (kAI vLa cI 24 f4)]) hP hD rfl
        replace hD := hP.2
        replace hP := hP.1
        obtain ⟨hP9, hD9⟩ := k_c2 (wc := [(kX10 aTr aLa aPa aGe gL gR (gp_20 0) (gp_20 1) 1 r_15 (kAt 39 f7 ((5 * p1) + (0 : Int32))) (kAt 39 f7 ((5 * p1) + (1 : Int32))) (5 * (kAt 39 f7 ((5 * p1) + (2 : Int32)))) (kAt 39 f7 ((5 * p1) + (3 : Int32))) tle tan tco ten), (kX3 gL (g_16 0) (g_16 1) (g_16 2) (g_16 3)), (kX3 gR (g_16 4) (g_16 5) (g_16 6) (g_16 7)), (kX4 aLa vLa l4 a4 n4), (kAI vLa cI 24 f4), (kX7 aPa vPa l7 a7 n7), (kAI vPa cI 39 f7), (kX2 aGe vGe l2 a2 n2), (kAI vGe cI 23 f2)]) hP hD [4, 5, 6, 7, 8, 0, 1, 2, 3] (by decide +kernel) rfl
        exact W.vret hx₀ hb hr (fun t₀ ht hW => ⟨⟨(k_fn [(g_16 0), (g_16 1), (g_16 2), (g_16 3), (g_16 4), (g_16 5), (g_16 6), (g_16 7), (1 : Int32), r_15, (kAt 39 f7 ((5 * p1) + (0 : Int32))), (kAt 39 f7 ((5 * p1) + (1 : Int32))), (5 * (kAt 39 f7 ((5 * p1) + (2 : Int32)))), (kAt 39 f7 ((5 * p1) + (3 : Int32)))], k_fa [], k_fl [], k_fL [], k_fp [(gp_20 0), (gp_20 1)]), rfl, ⟨(if_pos (show (0 ≤ p1 ∧ p1 < n7) ∧ (0 ≤ q1 ∧ q1 < n2) ∧ 0 ≤ r1 ∧ r1 < n2 from ⟨⟨c_2.1, c_2.2⟩, ⟨c_4.1, c_4.2⟩, c_6.1, c_6.2⟩)).symm, ((c_21.trans (by rw [show (n4 - 1 + 1 : Int32) = n4 from Int32.sub_add_cancel n4 1])).trans (if_pos (show (0 ≤ p1 ∧ p1 < n7) ∧ (0 ≤ q1 ∧ q1 < n2) ∧ 0 ≤ r1 ∧ r1 < n2 from ⟨⟨c_2.1, c_2.2⟩, ⟨c_4.1, c_4.2⟩, c_6.1, c_6.2⟩)).symm), (if_pos (show (0 ≤ p1 ∧ p1 < n7) ∧ (0 ≤ q1 ∧ q1 < n2) ∧ 0 ≤ r1 ∧ r1 < n2 from ⟨⟨c_2.1, c_2.2⟩, ⟨c_4.1, c_4.2⟩, c_6.1, c_6.2⟩)).symm, (if_pos (show (0 ≤ p1 ∧ p1 < n7) ∧ (0 ≤ q1 ∧ q1 < n2) ∧ 0 ≤ r1 ∧ r1 < n2 from ⟨⟨c_2.1, c_2.2⟩, ⟨c_4.1, c_4.2⟩, c_6.1, c_6.2⟩)).symm, (if_pos (show (0 ≤ p1 ∧ p1 < n7) ∧ (0 ≤ q1 ∧ q1 < n2) ∧ 0 ≤ r1 ∧ r1 < n2 from ⟨⟨c_2.1, c_2.2⟩, ⟨c_4.1, c_4.2⟩, c_6.1, c_6.2⟩)).symm, (if_pos (show (0 ≤ p1 ∧ p1 < n7) ∧ (0 ≤ q1 ∧ q1 < n2) ∧ 0 ≤ r1 ∧ r1 < n2 from ⟨⟨c_2.1, c_2.2⟩, ⟨c_4.1, c_4.2⟩, c_6.1, c_6.2⟩)).symm⟩, by rw [ht]; exact hP9, va_K.moved hW.alike hK, hD9⟩, hS.F ht⟩) hS.2.2 dX10_board_190
      rw [if_neg c_6] at hw
      refine k_topi (v := 0) hw ?_
      refine lv_if_eq (tgt := 38) hx₀ hb dX10_board_31 (by decide) (fun _ => ?_) (fun c9 => absurd (by decide +kernel) c9)
      refine lv_iconst (v := 0) hx₀ hb dX10_board_38 (by decide +kernel) ?_
      refine va_put (D := (dC, dI)) (ci := 9) (v := .int 0) (ty := .boolean) (C := RX10) (T := TX10) (N := 17) hx₀ hb hts inlX10 tyX10 tyX10_ok nmX10 hown hK hP hD hS 0 rfl rfl 7 (by decide) (hts (.fieldLink RX10 48 "BittenStick$Trip" "goes" "Z") wd_453) (fun _ h9 => h9) rfl (by decide +kernel) (by decide +kernel) (by decide +kernel) (Nat.le_of_ble_eq_true rfl) dX10_board_39 ?_
      clear hP hD hS
      intro H locs hP hD hS
      replace hP := k_w2 (wt := [(kX10 aTr aLa aPa aGe gL gR lf rt 0 tca tki tso tbe twe tle tan tco ten), (kX3 gL u0 u1 u2 u3), (kX3 gR v0 v1 v2 v3), (kX4 aLa vLa l4 a4 n4), (kAI vLa cI 24 f4), (kAI vPa cI 39 f7), (kAI vGe cI 23 f2), (kX7 aPa vPa l7 a7 n7), (kX2 aGe vGe l2 a2 n2)]) hP hD rfl
      replace hD := hP.2
      replace hP := hP.1
      refine lv_aload_n hx₀ hb dX10_board_42 rfl (lv_at hl 0 rfl) ?_
      refine lv_iconst (v := 0) hx₀ hb dX10_board_43 (by decide +kernel) ?_
      refine va_put (D := (dC, dI)) (ci := 9) (v := .int 0) (ty := .int) (C := RX10) (T := TX10) (N := 17) hx₀ hb hts inlX10 tyX10 tyX10_ok nmX10 hown hK hP hD hS 0 rfl rfl 8 (by decide) (hts (.fieldLink RX10 52 "BittenStick$Trip" "carriedTo" "I") wd_454) (fun _ h9 => h9) rfl (by decide +kernel) rfl rfl (Nat.le_of_ble_eq_true rfl) dX10_board_44 ?_
      clear hP hD hS
      intro H locs hP hD hS
      replace hP := k_w2 (wt := [(kX10 aTr aLa aPa aGe gL gR lf rt 0 0 tki tso tbe twe tle tan tco ten), (kX3 gL u0 u1 u2 u3), (kX3 gR v0 v1 v2 v3), (kX4 aLa vLa l4 a4 n4), (kAI vLa cI 24 f4), (kAI vPa cI 39 f7), (kAI vGe cI 23 f2), (kX7 aPa vPa l7 a7 n7), (kX2 aGe vGe l2 a2 n2)]) hP hD rfl
      replace hD := hP.2
      replace hP := hP.1
      refine lv_aload_n hx₀ hb dX10_board_47 rfl (lv_at hl 0 rfl) ?_
      refine va_get (D := (dC, dI)) (ci := 9) (v := .int 0) (C := RX10) (T := TX10) (N := 17) hx₀ hb hts inlX10 hown hK hP 0 rfl rfl 7 (by decide) (hts (.fieldLink RX10 48 "BittenStick$Trip" "goes" "Z") wd_453) (fun _ h9 => h9) rfl dX10_board_48 ?_
      refine lv_if_eq (tgt := 190) hx₀ hb dX10_board_51 (by decide) (fun _ => ?_) (fun c9 => absurd (by decide +kernel) c9)
      obtain ⟨hP9, hD9⟩ := k_c2 (wc := [(kX10 aTr aLa aPa aGe gL gR lf rt 0 0 tki tso tbe twe tle tan tco ten), (kX3 gL u0 u1 u2 u3), (kX3 gR v0 v1 v2 v3), (kX4 aLa vLa l4 a4 n4), (kAI vLa cI 24 f4), (kX7 aPa vPa l7 a7 n7), (kAI vPa cI 39 f7), (kX2 aGe vGe l2 a2 n2), (kAI vGe cI 23 f2)]) hP hD [0, 1, 2, 3, 4, 7, 5, 8, 6] (by decide +kernel) rfl
      exact W.vret hx₀ hb hr (fun t₀ ht hW => ⟨⟨(k_fn [u0, u1, u2, u3, v0, v1, v2, v3, (0 : Int32), (0 : Int32), tki, tso, tbe, twe], k_fa [], k_fl [], k_fL [], k_fp [lf, rt]), rfl, ⟨(if_neg (show ¬ ((0 ≤ p1 ∧ p1 < n7) ∧ (0 ≤ q1 ∧ q1 < n2) ∧ 0 ≤ r1 ∧ r1 < n2) from (fun z => c_6 (And.intro z.2.2.1 z.2.2.2)))).symm, (if_neg (show ¬ ((0 ≤ p1 ∧ p1 < n7) ∧ (0 ≤ q1 ∧ q1 < n2) ∧ 0 ≤ r1 ∧ r1 < n2) from (fun z => c_6 (And.intro z.2.2.1 z.2.2.2)))).symm, (if_neg (show ¬ ((0 ≤ p1 ∧ p1 < n7) ∧ (0 ≤ q1 ∧ q1 < n2) ∧ 0 ≤ r1 ∧ r1 < n2) from (fun z => c_6 (And.intro z.2.2.1 z.2.2.2)))).symm, (if_neg (show ¬ ((0 ≤ p1 ∧ p1 < n7) ∧ (0 ≤ q1 ∧ q1 < n2) ∧ 0 ≤ r1 ∧ r1 < n2) from (fun z => c_6 (And.intro z.2.2.1 z.2.2.2)))).symm, (if_neg (show ¬ ((0 ≤ p1 ∧ p1 < n7) ∧ (0 ≤ q1 ∧ q1 < n2) ∧ 0 ≤ r1 ∧ r1 < n2) from (fun z => c_6 (And.intro z.2.2.1 z.2.2.2)))).symm, (if_neg (show ¬ ((0 ≤ p1 ∧ p1 < n7) ∧ (0 ≤ q1 ∧ q1 < n2) ∧ 0 ≤ r1 ∧ r1 < n2) from (fun z => c_6 (And.intro z.2.2.1 z.2.2.2)))).symm⟩, by rw [ht]; exact hP9, va_K.moved hW.alike hK, hD9⟩, hS.F ht⟩) hS.2.2 dX10_board_190
    rw [if_neg c_4] at hw
    refine k_topi (v := 0) hw ?_
    refine lv_if_eq (tgt := 38) hx₀ hb dX10_board_20 (by decide) (fun _ => ?_) (fun c9 => absurd (by decide +kernel) c9)
    refine lv_iconst (v := 0) hx₀ hb dX10_board_38 (by decide +kernel) ?_
    refine va_put (D := (dC, dI)) (ci := 9) (v := .int 0) (ty := .boolean) (C := RX10) (T := TX10) (N := 17) hx₀ hb hts inlX10 tyX10 tyX10_ok nmX10 hown hK hP hD hS 0 rfl rfl 7 (by decide) (hts (.fieldLink RX10 48 "BittenStick$Trip" "goes" "Z") wd_453) (fun _ h9 => h9) rfl (by decide +kernel) (by decide +kernel) (by decide +kernel) (Nat.le_of_ble_eq_true rfl) dX10_board_39 ?_
    clear hP hD hS
    intro H locs hP hD hS
    replace hP := k_w2 (wt := [(kX10 aTr aLa aPa aGe gL gR lf rt 0 tca tki tso tbe twe tle tan tco ten), (kX3 gL u0 u1 u2 u3), (kX3 gR v0 v1 v2 v3), (kX4 aLa vLa l4 a4 n4), (kAI vLa cI 24 f4), (kAI vPa cI 39 f7), (kAI vGe cI 23 f2), (kX7 aPa vPa l7 a7 n7), (kX2 aGe vGe l2 a2 n2)]) hP hD rfl
    replace hD := hP.2
    replace hP := hP.1
    refine lv_aload_n hx₀ hb dX10_board_42 rfl (lv_at hl 0 rfl) ?_
    refine lv_iconst (v := 0) hx₀ hb dX10_board_43 (by decide +kernel) ?_
    refine va_put (D := (dC, dI)) (ci := 9) (v := .int 0) (ty := .int) (C := RX10) (T := TX10) (N := 17) hx₀ hb hts inlX10 tyX10 tyX10_ok nmX10 hown hK hP hD hS 0 rfl rfl 8 (by decide) (hts (.fieldLink RX10 52 "BittenStick$Trip" "carriedTo" "I") wd_454) (fun _ h9 => h9) rfl (by decide +kernel) rfl rfl (Nat.le_of_ble_eq_true rfl) dX10_board_44 ?_
    clear hP hD hS
    intro H locs hP hD hS
    replace hP := k_w2 (wt := [(kX10 aTr aLa aPa aGe gL gR lf rt 0 0 tki tso tbe twe tle tan tco ten), (kX3 gL u0 u1 u2 u3), (kX3 gR v0 v1 v2 v3), (kX4 aLa vLa l4 a4 n4), (kAI vLa cI 24 f4), (kAI vPa cI 39 f7), (kAI vGe cI 23 f2), (kX7 aPa vPa l7 a7 n7), (kX2 aGe vGe l2 a2 n2)]) hP hD rfl
    replace hD := hP.2
    replace hP := hP.1
    refine lv_aload_n hx₀ hb dX10_board_47 rfl (lv_at hl 0 rfl) ?_
    refine va_get (D := (dC, dI)) (ci := 9) (v := .int 0) (C := RX10) (T := TX10) (N := 17) hx₀ hb hts inlX10 hown hK hP 0 rfl rfl 7 (by decide) (hts (.fieldLink RX10 48 "BittenStick$Trip" "goes" "Z") wd_453) (fun _ h9 => h9) rfl dX10_board_48 ?_
    refine lv_if_eq (tgt := 190) hx₀ hb dX10_board_51 (by decide) (fun _ => ?_) (fun c9 => absurd (by decide +kernel) c9)
    obtain ⟨hP9, hD9⟩ := k_c2 (wc := [(kX10 aTr aLa aPa aGe gL gR lf rt 0 0 tki tso tbe twe tle tan tco ten), (kX3 gL u0 u1 u2 u3), (kX3 gR v0 v1 v2 v3), (kX4 aLa vLa l4 a4 n4), (kAI vLa cI 24 f4), (kX7 aPa vPa l7 a7 n7), (kAI vPa cI 39 f7), (kX2 aGe vGe l2 a2 n2), (kAI vGe cI 23 f2)]) hP hD [0, 1, 2, 3, 4, 7, 5, 8, 6] (by decide +kernel) rfl
    exact W.vret hx₀ hb hr (fun t₀ ht hW => ⟨⟨(k_fn [u0, u1, u2, u3, v0, v1, v2, v3, (0 : Int32), (0 : Int32), tki, tso, tbe, twe], k_fa [], k_fl [], k_fL [], k_fp [lf, rt]), rfl, ⟨(if_neg (show ¬ ((0 ≤ p1 ∧ p1 < n7) ∧ (0 ≤ q1 ∧ q1 < n2) ∧ 0 ≤ r1 ∧ r1 < n2) from (fun z => c_4 z.2.1))).symm, (if_neg (show ¬ ((0 ≤ p1 ∧ p1 < n7) ∧ (0 ≤ q1 ∧ q1 < n2) ∧ 0 ≤ r1 ∧ r1 < n2) from (fun z => c_4 z.2.1))).symm, (if_neg (show ¬ ((0 ≤ p1 ∧ p1 < n7) ∧ (0 ≤ q1 ∧ q1 < n2) ∧ 0 ≤ r1 ∧ r1 < n2) from (fun z => c_4 z.2.1))).symm, (if_neg (show ¬ ((0 ≤ p1 ∧ p1 < n7) ∧ (0 ≤ q1 ∧ q1 < n2) ∧ 0 ≤ r1 ∧ r1 < n2) from (fun z => c_4 z.2.1))).symm, (if_neg (show ¬ ((0 ≤ p1 ∧ p1 < n7) ∧ (0 ≤ q1 ∧ q1 < n2) ∧ 0 ≤ r1 ∧ r1 < n2) from (fun z => c_4 z.2.1))).symm, (if_neg (show ¬ ((0 ≤ p1 ∧ p1 < n7) ∧ (0 ≤ q1 ∧ q1 < n2) ∧ 0 ≤ r1 ∧ r1 < n2) from (fun z => c_4 z.2.1))).symm⟩, by rw [ht]; exact hP9, va_K.moved hW.alike hK, hD9⟩, hS.F ht⟩) hS.2.2 dX10_board_190
  rw [if_neg c_2] at hw
  refine k_topi (v := 0) hw ?_
  refine lv_if_eq (tgt := 38) hx₀ hb dX10_board_9 (by decide) (fun _ => ?_) (fun c9 => absurd (by decide +kernel) c9)
  refine lv_iconst (v := 0) hx₀ hb dX10_board_38 (by decide +kernel) ?_
  refine va_put (D := (dC, dI)) (ci := 9) (v := .int 0) (ty := .boolean) (C := RX10) (T := TX10) (N := 17) hx₀ hb hts inlX10 tyX10 tyX10_ok nmX10 hown hK hP hD hS 0 rfl rfl 7 (by decide) (hts (.fieldLink RX10 48 "BittenStick$Trip" "goes" "Z") wd_453) (fun _ h9 => h9) rfl (by decide +kernel) (by decide +kernel) (by decide +kernel) (Nat.le_of_ble_eq_true rfl) dX10_board_39 ?_
  clear hP hD hS
  intro H locs hP hD hS
  replace hP := k_w2 (wt := [(kX10 aTr aLa aPa aGe gL gR lf rt 0 tca tki tso tbe twe tle tan tco ten), (kX3 gL u0 u1 u2 u3), (kX3 gR v0 v1 v2 v3), (kX4 aLa vLa l4 a4 n4), (kAI vLa cI 24 f4), (kAI vPa cI 39 f7), (kX2 aGe vGe l2 a2 n2), (kAI vGe cI 23 f2), (kX7 aPa vPa l7 a7 n7)]) hP hD rfl
  replace hD := hP.2
  replace hP := hP.1
  refine lv_aload_n hx₀ hb dX10_board_42 rfl (lv_at hl 0 rfl) ?_
  refine lv_iconst (v := 0) hx₀ hb dX10_board_43 (by decide +kernel) ?_
  refine va_put (D := (dC, dI)) (ci := 9) (v := .int 0) (ty := .int) (C := RX10) (T := TX10) (N := 17) hx₀ hb hts inlX10 tyX10 tyX10_ok nmX10 hown hK hP hD hS 0 rfl rfl 8 (by decide) (hts (.fieldLink RX10 52 "BittenStick$Trip" "carriedTo" "I") wd_454) (fun _ h9 => h9) rfl (by decide +kernel) rfl rfl (Nat.le_of_ble_eq_true rfl) dX10_board_44 ?_
  clear hP hD hS
  intro H locs hP hD hS
  replace hP := k_w2 (wt := [(kX10 aTr aLa aPa aGe gL gR lf rt 0 0 tki tso tbe twe tle tan tco ten), (kX3 gL u0 u1 u2 u3), (kX3 gR v0 v1 v2 v3), (kX4 aLa vLa l4 a4 n4), (kAI vLa cI 24 f4), (kAI vPa cI 39 f7), (kX2 aGe vGe l2 a2 n2), (kAI vGe cI 23 f2), (kX7 aPa vPa l7 a7 n7)]) hP hD rfl
  replace hD := hP.2
  replace hP := hP.1
  refine lv_aload_n hx₀ hb dX10_board_47 rfl (lv_at hl 0 rfl) ?_
  refine va_get (D := (dC, dI)) (ci := 9) (v := .int 0) (C := RX10) (T := TX10) (N := 17) hx₀ hb hts inlX10 hown hK hP 0 rfl rfl 7 (by decide) (hts (.fieldLink RX10 48 "BittenStick$Trip" "goes" "Z") wd_453) (fun _ h9 => h9) rfl dX10_board_48 ?_
  refine lv_if_eq (tgt := 190) hx₀ hb dX10_board_51 (by decide) (fun _ => ?_) (fun c9 => absurd (by decide +kernel) c9)
  obtain ⟨hP9, hD9⟩ := k_c2 (wc := [(kX10 aTr aLa aPa aGe gL gR lf rt 0 0 tki tso tbe twe tle tan tco ten), (kX3 gL u0 u1 u2 u3), (kX3 gR v0 v1 v2 v3), (kX4 aLa vLa l4 a4 n4), (kAI vLa cI 24 f4), (kX7 aPa vPa l7 a7 n7), (kAI vPa cI 39 f7), (kX2 aGe vGe l2 a2 n2), (kAI vGe cI 23 f2)]) hP hD [0, 1, 2, 3, 4, 8, 5, 6, 7] (by decide +kernel) rfl
  exact W.vret hx₀ hb hr (fun t₀ ht hW => ⟨⟨(k_fn [u0, u1, u2, u3, v0, v1, v2, v3, (0 : Int32), (0 : Int32), tki, tso, tbe, twe], k_fa [], k_fl [], k_fL [], k_fp [lf, rt]), rfl, ⟨(if_neg (show ¬ ((0 ≤ p1 ∧ p1 < n7) ∧ (0 ≤ q1 ∧ q1 < n2) ∧ 0 ≤ r1 ∧ r1 < n2) from (fun z => c_2 z.1))).symm, (if_neg (show ¬ ((0 ≤ p1 ∧ p1 < n7) ∧ (0 ≤ q1 ∧ q1 < n2) ∧ 0 ≤ r1 ∧ r1 < n2) from (fun z => c_2 z.1))).symm, (if_neg (show ¬ ((0 ≤ p1 ∧ p1 < n7) ∧ (0 ≤ q1 ∧ q1 < n2) ∧ 0 ≤ r1 ∧ r1 < n2) from (fun z => c_2 z.1))).symm, (if_neg (show ¬ ((0 ≤ p1 ∧ p1 < n7) ∧ (0 ≤ q1 ∧ q1 < n2) ∧ 0 ≤ r1 ∧ r1 < n2) from (fun z => c_2 z.1))).symm, (if_neg (show ¬ ((0 ≤ p1 ∧ p1 < n7) ∧ (0 ≤ q1 ∧ q1 < n2) ∧ 0 ≤ r1 ∧ r1 < n2) from (fun z => c_2 z.1))).symm, (if_neg (show ¬ ((0 ≤ p1 ∧ p1 < n7) ∧ (0 ≤ q1 ∧ q1 < n2) ∧ 0 ≤ r1 ∧ r1 < n2) from (fun z => c_2 z.1))).symm⟩, by rw [ht]; exact hP9, va_K.moved hW.alike hK, hD9⟩, hS.F ht⟩) hS.2.2 dX10_board_190
set_option maxHeartbeats 4000000 in
set_option maxRecDepth 100000 in
theorem j_cTold (l : Launch) (dC : Nat → ClassId) (dI : Nat → Nat → Nat) (cI cJ cQ : ClassId) (sz : Nat) (aBe : Nat) (i1 : Int32) (k0 : Int32) (k1 : Int32) (k2 : Int32) (k3 : Int32) : Met l yX0_told (kW yX0_told cX0_told 2 (some .int)) { frames := 0, cells := 0, slots := 0, locals := 0 } (kPre dC dI cI cJ cQ sz [.ref aBe, .int i1] [(kX0 aBe k0 k1 k2 k3)]) (va_Qi (fun (r : Int32) (u : Unit) => True) (fun (u : Unit) t₀ => kB dC dI cI cJ cQ (va_A [(kX0 aBe k0 k1 k2 k3)] sz) [(kX0 aBe k0 k1 k2 k3)] t₀) (va_A [(kX0 aBe k0 k1 k2 k3)] sz)) 0 0 (va_A [(kX0 aBe k0 k1 k2 k3)] sz) := by
  refine Met.ofW (cc := cX0_told) (maxL := 2) (ret := (some .int)) (by decide) rfl ?_
  intro p₀ e₀ s₀ m₀ args below meth c₀ s₁ B hml hv₀
  obtain ⟨rfl, hsz, hP, hK, hD0, hN⟩ := hv₀
  have hx₀ := B.exec
  have hb := B.bytes
  have hr := B.returns
  have hts := atoms_spec (ws := (kW yX0_told cX0_told 2 (some .int))) B.pre
  have hts := fun w h => hts w (List.mem_cons_of_mem _ h)
  have hown : s₀.vm.findClass RX0 = some m₀.cls := findClass_of_methodNamed B.named
  have hlocks := B.notSynchronized
  subst hsz
  have hD := hD0.self (sz := s₀.heap.size)
  generalize hAe : va_A [(kX0 aBe k0 k1 k2 k3)] s₀.heap.size = A at hD ⊢
  have hA : ∀ q : Nat, s₀.heap.size ≤ q → A q := fun q h => by rw [← hAe]; exact Or.inr h
  have hS : va_S A s₀.heap s₀.heap [] := va_S.rf
  have hP : va_P (dC, dI) vwCl [(kX0 aBe k0 k1 k2 k3)] s₀.heap := hP
  have hl := lv_entry ([.ref aBe, .int i1]) (n := 2) (Nat.le_of_ble_eq_true rfl)
  rw [lg_entry_eq]
  generalize (lg_sl ([.ref aBe, .int i1]) ++ List.replicate (2 - (lg_sl ([.ref aBe, .int i1])).length) Slot.unset).toArray = ls at hl ⊢
  have hl : lv_has ls 2 [(0, .ref aBe), (1, .int i1)] := hl
  obtain ⟨H, hH⟩ : ∃ z : Heap, z = s₀.heap := ⟨_, rfl⟩
  rw [← hH] at hP
  have hS : va_S A s₀.heap H [] := by rw [hH]; exact hS
  refine k_heap hH ?_
  have hD : va_D A [(kX0 aBe k0 k1 k2 k3)] := hD
  obtain ⟨locs, hlo⟩ : ∃ z : List Loc, z = [] := ⟨_, rfl⟩
  rw [← hlo] at hS ⊢
  clear hlo hH hAe hD0
  refine lv_iload_n hx₀ hb dX0_told_0 rfl (lv_at hl 1 rfl) ?_
  by_cases c_1 : i1 = 0
  · subst c_1
    refine lv_tableIn (off := 27) (tgt := 28) hx₀ hb dX0_told_1 (by decide +kernel) (by decide +kernel) (by decide +kernel) (by decide) ?_
    refine lv_aload_n hx₀ hb dX0_told_28 rfl (lv_at hl 0 rfl) ?_
    refine va_get (D := (dC, dI)) (ci := 0) (v := .int k1) (C := RX0) (T := TX0) (N := 4) hx₀ hb hts inlX0 hown hK hP 0 rfl rfl 1 (by decide) (hts (.fieldLink RX0 9 "BittenStick$Climb" "first" "I") wd_634) (fun _ h9 => h9) rfl dX0_told_29 ?_
    obtain ⟨hP9, hD9⟩ := k_c2 (wc := [(kX0 aBe k0 k1 k2 k3)]) hP hD [0] (by decide +kernel) rfl
    exact W.iret (v := k1) hx₀ hb hr (fun t₀ ht hW => ⟨⟨k1, (), rfl, trivial, by rw [ht]; exact hP9, va_K.moved hW.alike hK, hD9⟩, hS.F ht⟩) hS.2.2 dX0_told_32
  by_cases c_2 : i1 = 1
  · subst c_2
    refine lv_tableIn (off := 32) (tgt := 33) hx₀ hb dX0_told_1 (by decide +kernel) (by decide +kernel) (by decide +kernel) (by decide) ?_
    refine lv_aload_n hx₀ hb dX0_told_33 rfl (lv_at hl 0 rfl) ?_
    refine va_get (D := (dC, dI)) (ci := 0) (v := .int k2) (C := RX0) (T := TX0) (N := 4) hx₀ hb hts inlX0 hown hK hP 0 rfl rfl 2 (by decide) (hts (.fieldLink RX0 15 "BittenStick$Climb" "turn" "I") wd_635) (fun _ h9 => h9) rfl dX0_told_34 ?_
    obtain ⟨hP9, hD9⟩ := k_c2 (wc := [(kX0 aBe k0 k1 k2 k3)]) hP hD [0] (by decide +kernel) rfl
    exact W.iret (v := k2) hx₀ hb hr (fun t₀ ht hW => ⟨⟨k2, (), rfl, trivial, by rw [ht]; exact hP9, va_K.moved hW.alike hK, hD9⟩, hS.F ht⟩) hS.2.2 dX0_told_37
  by_cases c_3 : i1 = 2
  · subst c_3
    refine lv_tableIn (off := 37) (tgt := 38) hx₀ hb dX0_told_1 (by decide +kernel) (by decide +kernel) (by decide +kernel) (by decide) ?_
    refine lv_aload_n hx₀ hb dX0_told_38 rfl (lv_at hl 0 rfl) ?_
    refine va_get (D := (dC, dI)) (ci := 0) (v := .int k3) (C := RX0) (T := TX0) (N := 4) hx₀ hb hts inlX0 hown hK hP 0 rfl rfl 3 (by decide) (hts (.fieldLink RX0 18 "BittenStick$Climb" "second" "I") wd_636) (fun _ h9 => h9) rfl dX0_told_39 ?_
    obtain ⟨hP9, hD9⟩ := k_c2 (wc := [(kX0 aBe k0 k1 k2 k3)]) hP hD [0] (by decide +kernel) rfl
    exact W.iret (v := k3) hx₀ hb hr (fun t₀ ht hW => ⟨⟨k3, (), rfl, trivial, by rw [ht]; exact hP9, va_K.moved hW.alike hK, hD9⟩, hS.F ht⟩) hS.2.2 dX0_told_42
  refine lv_tableOut (tgt := 43) hx₀ hb dX0_told_1 (k_out3 c_1 c_2 c_3) (by decide) ?_
  refine lv_aload_n hx₀ hb dX0_told_43 rfl (lv_at hl 0 rfl) ?_
  refine va_get (D := (dC, dI)) (ci := 0) (v := .int k0) (C := RX0) (T := TX0) (N := 4) hx₀ hb hts inlX0 hown hK hP 0 rfl rfl 0 (by decide) (hts (.fieldLink RX0 21 "BittenStick$Climb" "far" "I") wd_619) (fun _ h9 => h9) rfl dX0_told_44 ?_
  obtain ⟨hP9, hD9⟩ := k_c2 (wc := [(kX0 aBe k0 k1 k2 k3)]) hP hD [0] (by decide +kernel) rfl
  exact W.iret (v := k0) hx₀ hb hr (fun t₀ ht hW => ⟨⟨k0, (), rfl, trivial, by rw [ht]; exact hP9, va_K.moved hW.alike hK, hD9⟩, hS.F ht⟩) hS.2.2 dX0_told_47
set_option maxHeartbeats 4000000 in
set_option maxRecDepth 100000 in
theorem j_note (l : Launch) (dC : Nat → ClassId) (dI : Nat → Nat → Nat) (cI cJ cQ : ClassId) (sz : Nat) (aBe : Nat) (t1 : Int32) (h1 : Int32) (m1 : Int32) (o1 : Int32) (k0 : Int32) (k1 : Int32) (k2 : Int32) (k3 : Int32) : Met l yX0_note (kW yX0_note cX0_note 5 none) { frames := 0, cells := 0, slots := 0, locals := 0 } (kPre dC dI cI cJ cQ sz [.ref aBe, .int t1, .int h1, .int m1, .int o1] [(kX0 aBe k0 k1 k2 k3)]) (va_Qv (fun (u : kS) => True) (fun (u : kS) t₀ => kB dC dI cI cJ cQ (va_A [(kX0 aBe k0 k1 k2 k3)] sz) [(kX0 aBe (u.1 0) (u.1 1) (u.1 2) (u.1 3))] t₀) (va_A [(kX0 aBe k0 k1 k2 k3)] sz)) 0 0 (va_A [(kX0 aBe k0 k1 k2 k3)] sz) := by
  refine Met.ofW (cc := cX0_note) (maxL := 5) (ret := none) (by decide) rfl ?_
  intro p₀ e₀ s₀ m₀ args below meth c₀ s₁ B hml hv₀
  obtain ⟨rfl, hsz, hP, hK, hD0, hN⟩ := hv₀
  have hx₀ := B.exec
  have hb := B.bytes
  have hr := B.returns
  have hts := atoms_spec (ws := (kW yX0_note cX0_note 5 none)) B.pre
  have hts := fun w h => hts w (List.mem_cons_of_mem _ h)
  have hown : s₀.vm.findClass RX0 = some m₀.cls := findClass_of_methodNamed B.named
  have hlocks := B.notSynchronized
  subst hsz
  have hD := hD0.self (sz := s₀.heap.size)
  generalize hAe : va_A [(kX0 aBe k0 k1 k2 k3)] s₀.heap.size = A at hD ⊢
  have hA : ∀ q : Nat, s₀.heap.size ≤ q → A q := fun q h => by rw [← hAe]; exact Or.inr h
  have hS : va_S A s₀.heap s₀.heap [] := va_S.rf
  have hP : va_P (dC, dI) vwCl [(kX0 aBe k0 k1 k2 k3)] s₀.heap := hP
  have hl := lv_entry ([.ref aBe, .int t1, .int h1, .int m1, .int o1]) (n := 5) (Nat.le_of_ble_eq_true rfl)
  rw [lg_entry_eq]
  generalize (lg_sl ([.ref aBe, .int t1, .int h1, .int m1, .int o1]) ++ List.replicate (5 - (lg_sl ([.ref aBe, .int t1, .int h1, .int m1, .int o1])).length) Slot.unset).toArray = ls at hl ⊢
  have hl : lv_has ls 5 [(0, .ref aBe), (1, .int t1), (2, .int h1), (3, .int m1), (4, .int o1)] := hl
  obtain ⟨H, hH⟩ : ∃ z : Heap, z = s₀.heap := ⟨_, rfl⟩
  rw [← hH] at hP
  have hS : va_S A s₀.heap H [] := by rw [hH]; exact hS
  refine k_heap hH ?_
  have hD : va_D A [(kX0 aBe k0 k1 k2 k3)] := hD
  obtain ⟨locs, hlo⟩ : ∃ z : List Loc, z = [] := ⟨_, rfl⟩
  rw [← hlo] at hS ⊢
  clear hlo hH hAe hD0
  refine lv_iload_n hx₀ hb dX0_note_0 rfl (lv_at hl 1 rfl) ?_
  refine lv_aload_n hx₀ hb dX0_note_1 rfl (lv_at hl 0 rfl) ?_
  refine va_get (D := (dC, dI)) (ci := 0) (v := .int k0) (C := RX0) (T := TX0) (N := 4) hx₀ hb hts inlX0 hown hK hP 0 rfl rfl 0 (by decide) (hts (.fieldLink RX0 21 "BittenStick$Climb" "far" "I") wd_619) (fun _ h9 => h9) rfl dX0_note_2 ?_
  refine lv_icmp_le (tgt := 29) hx₀ hb dX0_note_5 (by decide) (fun c_1 => ?_) (fun c_1 => ?_)
  · obtain ⟨hP9, hD9⟩ := k_c2 (wc := [(kX0 aBe k0 k1 k2 k3)]) hP hD [0] (by decide +kernel) rfl
    exact W.vret hx₀ hb hr (fun t₀ ht hW => ⟨⟨(k_fn [k0, k1, k2, k3], k_fa [], k_fl [], k_fL [], k_fp []), rfl, trivial, by rw [ht]; exact hP9, va_K.moved hW.alike hK, hD9⟩, hS.F ht⟩) hS.2.2 dX0_note_29
  · refine lv_aload_n hx₀ hb dX0_note_8 rfl (lv_at hl 0 rfl) ?_
    refine lv_iload_n hx₀ hb dX0_note_9 rfl (lv_at hl 1 rfl) ?_
    refine va_put (D := (dC, dI)) (ci := 0) (v := .int t1) (ty := .int) (C := RX0) (T := TX0) (N := 4) hx₀ hb hts inlX0 tyX0 tyX0_ok nmX0 hown hK hP hD hS 0 rfl rfl 0 (by decide) (hts (.fieldLink RX0 21 "BittenStick$Climb" "far" "I") wd_619) (fun _ h9 => h9) rfl (by decide +kernel) rfl rfl (Nat.le_of_ble_eq_true rfl) dX0_note_10 ?_
    clear hP hD hS
    intro H locs hP hD hS
    replace hP := k_w2 (wt := [(kX0 aBe t1 k1 k2 k3)]) hP hD rfl
    replace hD := hP.2
    replace hP := hP.1
    refine lv_aload_n hx₀ hb dX0_note_13 rfl (lv_at hl 0 rfl) ?_
    refine lv_iload_n hx₀ hb dX0_note_14 rfl (lv_at hl 2 rfl) ?_
    refine va_put (D := (dC, dI)) (ci := 0) (v := .int h1) (ty := .int) (C := RX0) (T := TX0) (N := 4) hx₀ hb hts inlX0 tyX0 tyX0_ok nmX0 hown hK hP hD hS 0 rfl rfl 1 (by decide) (hts (.fieldLink RX0 9 "BittenStick$Climb" "first" "I") wd_634) (fun _ h9 => h9) rfl (by decide +kernel) rfl rfl (Nat.le_of_ble_eq_true rfl) dX0_note_15 ?_
    clear hP hD hS
    intro H locs hP hD hS
    replace hP := k_w2 (wt := [(kX0 aBe t1 h1 k2 k3)]) hP hD rfl
    replace hD := hP.2
    replace hP := hP.1
    refine lv_aload_n hx₀ hb dX0_note_18 rfl (lv_at hl 0 rfl) ?_
    refine lv_iload_n hx₀ hb dX0_note_19 rfl (lv_at hl 3 rfl) ?_
    refine va_put (D := (dC, dI)) (ci := 0) (v := .int m1) (ty := .int) (C := RX0) (T := TX0) (N := 4) hx₀ hb hts inlX0 tyX0 tyX0_ok nmX0 hown hK hP hD hS 0 rfl rfl 2 (by decide) (hts (.fieldLink RX0 15 "BittenStick$Climb" "turn" "I") wd_635) (fun _ h9 => h9) rfl (by decide +kernel) rfl rfl (Nat.le_of_ble_eq_true rfl) dX0_note_20 ?_
    clear hP hD hS
    intro H locs hP hD hS
    replace hP := k_w2 (wt := [(kX0 aBe t1 h1 m1 k3)]) hP hD rfl
    replace hD := hP.2
    replace hP := hP.1
    refine lv_aload_n hx₀ hb dX0_note_23 rfl (lv_at hl 0 rfl) ?_
    refine lv_iload hx₀ hb dX0_note_24 (lv_at hl 4 rfl) ?_
    refine va_put (D := (dC, dI)) (ci := 0) (v := .int o1) (ty := .int) (C := RX0) (T := TX0) (N := 4) hx₀ hb hts inlX0 tyX0 tyX0_ok nmX0 hown hK hP hD hS 0 rfl rfl 3 (by decide) (hts (.fieldLink RX0 18 "BittenStick$Climb" "second" "I") wd_636) (fun _ h9 => h9) rfl (by decide +kernel) rfl rfl (Nat.le_of_ble_eq_true rfl) dX0_note_26 ?_
    clear hP hD hS
    intro H locs hP hD hS
    replace hP := k_w2 (wt := [(kX0 aBe t1 h1 m1 o1)]) hP hD rfl
    replace hD := hP.2
    replace hP := hP.1
    obtain ⟨hP9, hD9⟩ := k_c2 (wc := [(kX0 aBe t1 h1 m1 o1)]) hP hD [0] (by decide +kernel) rfl
    exact W.vret hx₀ hb hr (fun t₀ ht hW => ⟨⟨(k_fn [t1, h1, m1, o1], k_fa [], k_fl [], k_fL [], k_fp []), rfl, trivial, by rw [ht]; exact hP9, va_K.moved hW.alike hK, hD9⟩, hS.F ht⟩) hS.2.2 dX0_note_29
theorem lf_j_trySecond_1 (a0 : Int32) (a1 : Nat) (h0 : 1 ≤ a0 ∧ a0 ≤ 10) (h1 : (10 - a0.toInt).toNat = a1) (h2 : ¬ 9 < a0) : 1 ≤ (a0 + 1) ∧ (a0 + 1) ≤ 10 := by
  first | rfl | assumption | decide | exact Or.inl rfl | (first | rfl | assumption | decide | omega | (have hr0 := Int32.toInt_lt a0; have hs0 := Int32.le_toInt a0; simp only [Int64.toInt_add, Int64.toInt_sub, Int32.toInt_add, Int32.toInt_sub, Int32.toInt_mul, Int64.le_iff_toInt_le, Int64.lt_iff_toInt_lt, Int32.le_iff_toInt_le, Int32.lt_iff_toInt_lt, ← Int32.toInt_inj, ← Int64.toInt_inj, Int32.toInt_toInt64, kc_1, kc_9, kc_10, true_and, and_true, not_true_eq_false, not_false_eq_true] at * <;> ((first | omega | ((try simp (disch := omega) only [k_bm64] at *); (try simp (disch := omega) only [k_bm] at *); (try simp (disch := omega) only [k_bm] at *); omega) | (simp only [Int.bmod] at *; omega)))))
theorem lf_j_trySecond_2 (a0 : Int32) (a1 : Nat) (h0 : 1 ≤ a0 ∧ a0 ≤ 10) (h1 : (10 - a0.toInt).toNat = a1) (h2 : ¬ 9 < a0) : (10 - (a0 + 1).toInt).toNat < a1 := by
  first | rfl | assumption | decide | exact Or.inl rfl | (first | rfl | assumption | decide | omega | (have hr0 := Int32.toInt_lt a0; have hs0 := Int32.le_toInt a0; simp only [Int64.toInt_add, Int64.toInt_sub, Int32.toInt_add, Int32.toInt_sub, Int32.toInt_mul, Int64.le_iff_toInt_le, Int64.lt_iff_toInt_lt, Int32.le_iff_toInt_le, Int32.lt_iff_toInt_lt, ← Int32.toInt_inj, ← Int64.toInt_inj, Int32.toInt_toInt64, kc_1, kc_9, kc_10, true_and, and_true, not_true_eq_false, not_false_eq_true] at * <;> ((first | omega | ((try simp (disch := omega) only [k_bm64] at *); (try simp (disch := omega) only [k_bm] at *); (try simp (disch := omega) only [k_bm] at *); omega) | (simp only [Int.bmod] at *; omega)))))
set_option maxHeartbeats 4000000 in
set_option maxRecDepth 100000 in
theorem j_trySecond (l : Launch) (dC : Nat → ClassId) (dI : Nat → Nat → Nat) (cI cJ cQ : ClassId) (sz : Nat) (aBe : Nat) (aTr : Nat) (mi : Int32) (h1 : Int32) (m1 : Int32) (k0 : Int32) (k1 : Int32) (k2 : Int32) (k3 : Int32) (aLa : Nat) (aPa : Nat) (aGe : Nat) (gL : Nat) (gR : Nat) (lf : Nat) (rt : Nat) (tgo : Int32) (tca : Int32) (tki : Int32) (tso : Int32) (tbe : Int32) (twe : Int32) (tle : Int32) (tan : Int32) (tco : Int32) (ten : Int32) (vLa : Nat) (l4 : Int32) (a4 : Int32) (n4 : Int32) (f4 : Nat → Int32) : Met l yX0_trySecond (kW yX0_trySecond cX0_trySecond 8 none) { frames := 2, cells := 0, slots := 0, locals := 49 } (kPre dC dI cI cJ cQ sz [.ref aBe, .ref aTr, .int mi, .int h1, .int m1] [(kX0 aBe k0 k1 k2 k3), (kX10 aTr aLa aPa aGe gL gR lf rt tgo tca tki tso tbe twe tle tan tco ten), (kX4 aLa vLa l4 a4 n4), (kAI vLa cI 24 f4)]) (va_Qv (fun (u : kS) => True) (fun (u : kS) t₀ => kB dC dI cI cJ cQ (va_A [(kX0 aBe k0 k1 k2 k3), (kX10 aTr aLa aPa aGe gL gR lf rt tgo tca tki tso tbe twe tle tan tco ten), (kX4 aLa vLa l4 a4 n4), (kAI vLa cI 24 f4)] sz) [(kX0 aBe (u.1 0) (u.1 1) (u.1 2) (u.1 3)), (kX10 aTr aLa aPa aGe gL gR lf rt tgo tca tki tso tbe twe tle (u.1 4) (u.1 5) (u.1 6)), (kX4 aLa vLa l4 a4 n4), (kAI vLa cI 24 f4)] t₀) (va_A [(kX0 aBe k0 k1 k2 k3), (kX10 aTr aLa aPa aGe gL gR lf rt tgo tca tki tso tbe twe tle tan tco ten), (kX4 aLa vLa l4 a4 n4), (kAI vLa cI 24 f4)] sz)) 0 0 (va_A [(kX0 aBe k0 k1 k2 k3), (kX10 aTr aLa aPa aGe gL gR lf rt tgo tca tki tso tbe twe tle tan tco ten), (kX4 aLa vLa l4 a4 n4), (kAI vLa cI 24 f4)] sz) := by
  refine Met.ofW (cc := cX0_trySecond) (maxL := 8) (ret := none) (by decide) rfl ?_
  intro p₀ e₀ s₀ m₀ args below meth c₀ s₁ B hml hv₀
  obtain ⟨rfl, hsz, hP, hK, hD0, hN⟩ := hv₀
  have hx₀ := B.exec
  have hb := B.bytes
  have hr := B.returns
  have hts := atoms_spec (ws := (kW yX0_trySecond cX0_trySecond 8 none)) B.pre
  have hts := fun w h => hts w (List.mem_cons_of_mem _ h)
  have hown : s₀.vm.findClass RX0 = some m₀.cls := findClass_of_methodNamed B.named
  have hlocks := B.notSynchronized
  subst hsz
  have hD := hD0.self (sz := s₀.heap.size)
  generalize hAe : va_A [(kX0 aBe k0 k1 k2 k3), (kX10 aTr aLa aPa aGe gL gR lf rt tgo tca tki tso tbe twe tle tan tco ten), (kX4 aLa vLa l4 a4 n4), (kAI vLa cI 24 f4)] s₀.heap.size = A at hD ⊢
  have hA : ∀ q : Nat, s₀.heap.size ≤ q → A q := fun q h => by rw [← hAe]; exact Or.inr h
  have hS : va_S A s₀.heap s₀.heap [] := va_S.rf
  have hP : va_P (dC, dI) vwCl [(kX0 aBe k0 k1 k2 k3), (kX10 aTr aLa aPa aGe gL gR lf rt tgo tca tki tso tbe twe tle tan tco ten), (kX4 aLa vLa l4 a4 n4), (kAI vLa cI 24 f4)] s₀.heap := hP
  have hl := lv_entry ([.ref aBe, .ref aTr, .int mi, .int h1, .int m1]) (n := 8) (Nat.le_of_ble_eq_true rfl)
  rw [lg_entry_eq]
  generalize (lg_sl ([.ref aBe, .ref aTr, .int mi, .int h1, .int m1]) ++ List.replicate (8 - (lg_sl ([.ref aBe, .ref aTr, .int mi, .int h1, .int m1])).length) Slot.unset).toArray = ls at hl ⊢
  have hl : lv_has ls 8 [(0, .ref aBe), (1, .ref aTr), (2, .int mi), (3, .int h1), (4, .int m1)] := hl
  obtain ⟨H, hH⟩ : ∃ z : Heap, z = s₀.heap := ⟨_, rfl⟩
  rw [← hH] at hP
  have hS : va_S A s₀.heap H [] := by rw [hH]; exact hS
  refine k_heap hH ?_
  have hD : va_D A [(kX0 aBe k0 k1 k2 k3), (kX10 aTr aLa aPa aGe gL gR lf rt tgo tca tki tso tbe twe tle tan tco ten), (kX4 aLa vLa l4 a4 n4), (kAI vLa cI 24 f4)] := hD
  obtain ⟨locs, hlo⟩ : ∃ z : List Loc, z = [] := ⟨_, rfl⟩
  rw [← hlo] at hS ⊢
  clear hlo hH hAe hD0
  refine lv_aload_n hx₀ hb dX0_trySecond_0 rfl (lv_at hl 1 rfl) ?_
  refine va_get (D := (dC, dI)) (ci := 9) (v := .int tan) (C := RX10) (T := TX10) (N := 17) hx₀ hb hts inlX10 hown hK hP 1 rfl rfl 14 (by decide) (hts (.fieldLink RX0 50 "BittenStick$Trip" "anger" "I") wd_628) (fun _ h9 => h9) rfl dX0_trySecond_1 ?_
  refine lv_istore (lv' := [(5, .int tan), (0, .ref aBe), (1, .ref aTr), (2, .int mi), (3, .int h1), (4, .int m1)]) hx₀ hb dX0_trySecond_4 hl (by decide) rfl (fun ls hl => ?_)
  refine lv_aload_n hx₀ hb dX0_trySecond_6 rfl (lv_at hl 2 rfl) ?_
  refine va_get (D := (dC, dI)) (ci := 9) (v := .int tco) (C := RX10) (T := TX10) (N := 17) hx₀ hb hts inlX10 hown hK hP 1 rfl rfl 15 (by decide) (hts (.fieldLink RX0 53 "BittenStick$Trip" "cold" "I") wd_629) (fun _ h9 => h9) rfl dX0_trySecond_7 ?_
  refine lv_istore (lv' := [(6, .int tco), (5, .int tan), (0, .ref aBe), (1, .ref aTr), (2, .int mi), (3, .int h1), (4, .int m1)]) hx₀ hb dX0_trySecond_10 hl (by decide) rfl (fun ls hl => ?_)
  refine lv_iconst (v := 1) hx₀ hb dX0_trySecond_12 (by decide +kernel) ?_
  refine lv_istore (lv' := [(7, .int 1), (6, .int tco), (5, .int tan), (0, .ref aBe), (1, .ref aTr), (2, .int mi), (3, .int h1), (4, .int m1)]) hx₀ hb dX0_trySecond_13 hl (by decide) rfl (fun ls hl => ?_)
  refine (?keyz1 : ∀ (jz1 : Nat) (oz1 : Int32) (y0z1 : Int32) (y1z1 : Int32) (y2z1 : Int32) (y3z1 : Int32) (x1z1 : Int32) (x2z1 : Int32) (x3z1 : Int32) (H : Heap) (locs : List Loc) (ls : Array Slot), (1 ≤ oz1 ∧ oz1 ≤ 10) → ((10 - oz1.toInt).toNat = jz1) → va_P (dC, dI) vwCl [(kX0 aBe y0z1 y1z1 y2z1 y3z1), (kX10 aTr aLa aPa aGe gL gR lf rt tgo tca tki tso tbe twe tle x1z1 x2z1 x3z1), (kX4 aLa vLa l4 a4 n4), (kAI vLa cI 24 f4)] H → va_D A [(kX0 aBe y0z1 y1z1 y2z1 y3z1), (kX10 aTr aLa aPa aGe gL gR lf rt tgo tca tki tso tbe twe tle x1z1 x2z1 x3z1), (kX4 aLa vLa l4 a4 n4), (kAI vLa cI 24 f4)] → va_S A s₀.heap H locs → lv_has ls 8 [(7, .int oz1), (6, .int tco), (5, .int tan), (0, .ref aBe), (1, .ref aTr), (2, .int mi), (3, .int h1), (4, .int m1)] → W p₀ l e₀ _ s₀ m₀ _ below meth c₀ H locs _ _ _ (F0 m₀ 15 ls [])) _ (1 : Int32) k0 k1 k2 k3 tan tco ten H locs ls (show 1 ≤ (1 : Int32) ∧ (1 : Int32) ≤ 10 from ⟨(by decide), (by decide)⟩) rfl hP hD hS hl
  clear hP hD hS hl
  intro jz1
  induction jz1 using Nat.strongRecOn with
  | ind jz1 ihz1 =>
    intro oz1 y0z1 y1z1 y2z1 y3z1 x1z1 x2z1 x3z1 H locs ls hiz1_0 hjz1 hP hD hS hl
    refine lv_iload hx₀ hb dX0_trySecond_15 (lv_at hl 0 rfl) ?_
    refine lv_bipush (v := 9) hx₀ hb dX0_trySecond_17 (by decide +kernel) ?_
    refine lv_icmp_gt (tgt := 58) hx₀ hb dX0_trySecond_19 (by decide) (fun c_2 => ?_) (fun c_2 => ?_)
    · obtain ⟨hP9, hD9⟩ := k_c2 (wc := [(kX0 aBe y0z1 y1z1 y2z1 y3z1), (kX10 aTr aLa aPa aGe gL gR lf rt tgo tca tki tso tbe twe tle x1z1 x2z1 x3z1), (kX4 aLa vLa l4 a4 n4), (kAI vLa cI 24 f4)]) hP hD [0, 1, 2, 3] (by decide +kernel) rfl
      exact W.vret hx₀ hb hr (fun t₀ ht hW => ⟨⟨(k_fn [y0z1, y1z1, y2z1, y3z1, x1z1, x2z1, x3z1], k_fa [], k_fl [], k_fL [], k_fp []), rfl, trivial, by rw [ht]; exact hP9, va_K.moved hW.alike hK, hD9⟩, hS.F ht⟩) hS.2.2 dX0_trySecond_58
    · refine lv_aload_n hx₀ hb dX0_trySecond_22 rfl (lv_at hl 3 rfl) ?_
      refine lv_aload_n hx₀ hb dX0_trySecond_23 rfl (lv_at hl 4 rfl) ?_
      refine lv_iload hx₀ hb dX0_trySecond_24 (lv_at hl 7 rfl) ?_
      refine lv_iload_n hx₀ hb dX0_trySecond_26 rfl (lv_at hl 5 rfl) ?_
      refine lv_iload hx₀ hb dX0_trySecond_27 (lv_at hl 0 rfl) ?_
      obtain ⟨hPc, hDc, hFc, hC⟩ := k_cw (wc := [(kX10 aTr aLa aPa aGe gL gR lf rt tgo tca tki tso tbe twe tle x1z1 x2z1 x3z1), (kX4 aLa vLa l4 a4 n4), (kAI vLa cI 24 f4)]) hP hD hS hA [1, 2, 3] (by decide +kernel) rfl
      refine va_calli (va_runV (As := [.int m1, .int mi, .int oz1]) (rest := [.ref aBe]) ⟨hx₀, hb, hml, hown, hts⟩ (j_goOn l dC dI cI cJ cQ H.size aTr m1 mi oz1 aLa aPa aGe gL gR lf rt tgo tca tki tso tbe twe tle x1z1 x2z1 x3z1 vLa l4 a4 n4 f4) (cwV 3 hts (kGV wd_506 wd_623 wd_504 wd_505 wd_30) rfl rfl rfl (by decide +kernel) ⟨Nat.le_of_ble_eq_true rfl, Nat.le_of_ble_eq_true rfl⟩) (k_preV9 (q0 := 0) hK hPc hDc hN rfl) rfl rfl hl.1 rfl (lv_room (Nat.le_of_ble_eq_true rfl)) dX0_trySecond_29 ⟨by decide +kernel, by decide +kernel⟩) hS (fun q _ h => hFc q h) hFc (fun r_3 u₀ t₀ H1 locs ht hvm hw hB hz1 hk1 hS => ?_)
      obtain ⟨g_4, ga_5, gl_6, gb_7, gp_8⟩ := u₀
      obtain ⟨hP1, hK1, hD1⟩ := hB
      rw [ht] at hP1
      have hJ := k_jn (wr := [(kX0 aBe y0z1 y1z1 y2z1 y3z1)]) (wt := [(kX0 aBe y0z1 y1z1 y2z1 y3z1), (kX10 aTr aLa aPa aGe gL gR lf rt tgo tca tki tso tbe twe tle (g_4 0) (g_4 1) (g_4 2)), (kX4 aLa vLa l4 a4 n4), (kAI vLa cI 24 f4)]) hP hD hC [0] rfl (by decide +kernel) (by decide +kernel) hk1 hFc hP1 hD1 rfl
      clear hP hD hPc hDc hFc hC hP1 hD1 hK1 hz1 hk1 hvm ht
      obtain ⟨hP, hD⟩ := hJ
      generalize H1 = H at hP hS ⊢
      try dsimp only at hw
      refine lv_iload_n hx₀ hb dX0_trySecond_32 rfl (lv_at hl 6 rfl) ?_
      refine lv_iload hx₀ hb dX0_trySecond_33 (lv_at hl 7 rfl) ?_
      refine lv_iload hx₀ hb dX0_trySecond_35 (lv_at hl 0 rfl) ?_
      obtain ⟨hPc, hDc, hFc, hC⟩ := k_cw (wc := [(kX0 aBe y0z1 y1z1 y2z1 y3z1)]) hP hD hS hA [0] (by decide +kernel) rfl
      refine va_callv (va_runV (As := [.int r_3, .int h1, .int m1, .int oz1]) (rest := []) ⟨hx₀, hb, hml, hown, hts⟩ (j_note l dC dI cI cJ cQ H.size aBe r_3 h1 m1 oz1 y0z1 y1z1 y2z1 y3z1) (cwV 4 hts (kGV wd_633 wd_630 wd_631 wd_632 wd_34) rfl rfl rfl (by decide +kernel) ⟨Nat.le_of_ble_eq_true rfl, Nat.le_of_ble_eq_true rfl⟩) (k_preV0 (q0 := 0) hK hPc hDc hN rfl) rfl rfl hl.1 rfl (lv_room (Nat.le_of_ble_eq_true rfl)) dX0_trySecond_37 ⟨by decide +kernel, by decide +kernel⟩) hS (fun q _ h => hFc q h) hFc (fun u₀ t₀ H1 locs ht hvm hw hB hz1 hk1 hS => ?_)
      obtain ⟨g_10, ga_11, gl_12, gb_13, gp_14⟩ := u₀
      obtain ⟨hP1, hK1, hD1⟩ := hB
      rw [ht] at hP1
      have hJ := k_jn (wr := [(kX10 aTr aLa aPa aGe gL gR lf rt tgo tca tki tso tbe twe tle (g_4 0) (g_4 1) (g_4 2)), (kX4 aLa vLa l4 a4 n4), (kAI vLa cI 24 f4)]) (wt := [(kX10 aTr aLa aPa aGe gL gR lf rt tgo tca tki tso tbe twe tle (g_4 0) (g_4 1) (g_4 2)), (kX4 aLa vLa l4 a4 n4), (kAI vLa cI 24 f4), (kX0 aBe (g_10 0) (g_10 1) (g_10 2) (g_10 3))]) hP hD hC [1, 2, 3] rfl (by decide +kernel) (by decide +kernel) hk1 hFc hP1 hD1 rfl
      clear hP hD hPc hDc hFc hC hP1 hD1 hK1 hz1 hk1 hvm ht
      obtain ⟨hP, hD⟩ := hJ
      generalize H1 = H at hP hS ⊢
      refine lv_aload_n hx₀ hb dX0_trySecond_40 rfl (lv_at hl 4 rfl) ?_
      refine lv_iload hx₀ hb dX0_trySecond_41 (lv_at hl 2 rfl) ?_
      refine va_put (D := (dC, dI)) (ci := 9) (v := .int tan) (ty := .int) (C := RX10) (T := TX10) (N := 17) hx₀ hb hts inlX10 tyX10 tyX10_ok nmX10 hown hK hP hD hS 0 rfl rfl 14 (by decide) (hts (.fieldLink RX0 50 "BittenStick$Trip" "anger" "I") wd_628) (fun _ h9 => h9) rfl (by decide +kernel) rfl rfl (Nat.le_of_ble_eq_true rfl) dX0_trySecond_43 ?_
      clear hP hD hS
      intro H locs hP hD hS
      replace hP := k_w2 (wt := [(kX10 aTr aLa aPa aGe gL gR lf rt tgo tca tki tso tbe twe tle tan (g_4 1) (g_4 2)), (kX4 aLa vLa l4 a4 n4), (kAI vLa cI 24 f4), (kX0 aBe (g_10 0) (g_10 1) (g_10 2) (g_10 3))]) hP hD rfl
      replace hD := hP.2
      replace hP := hP.1
      refine lv_aload_n hx₀ hb dX0_trySecond_46 rfl (lv_at hl 4 rfl) ?_
      refine lv_iload hx₀ hb dX0_trySecond_47 (lv_at hl 1 rfl) ?_
      refine va_put (D := (dC, dI)) (ci := 9) (v := .int tco) (ty := .int) (C := RX10) (T := TX10) (N := 17) hx₀ hb hts inlX10 tyX10 tyX10_ok nmX10 hown hK hP hD hS 0 rfl rfl 15 (by decide) (hts (.fieldLink RX0 53 "BittenStick$Trip" "cold" "I") wd_629) (fun _ h9 => h9) rfl (by decide +kernel) rfl rfl (Nat.le_of_ble_eq_true rfl) dX0_trySecond_49 ?_
      clear hP hD hS
      intro H locs hP hD hS
      replace hP := k_w2 (wt := [(kX10 aTr aLa aPa aGe gL gR lf rt tgo tca tki tso tbe twe tle tan tco (g_4 2)), (kX4 aLa vLa l4 a4 n4), (kAI vLa cI 24 f4), (kX0 aBe (g_10 0) (g_10 1) (g_10 2) (g_10 3))]) hP hD rfl
      replace hD := hP.2
      replace hP := hP.1
      refine lv_iinc (v := oz1 + 1) (lv' := [(7, .int (oz1 + 1)), (6, .int tco), (5, .int tan), (0, .ref aBe), (1, .ref aTr), (2, .int mi), (3, .int h1), (4, .int m1)]) hx₀ hb dX0_trySecond_52 hl (k := 0) rfl rfl (by decide) rfl (fun ls hl => ?_)
      refine lv_goto (tgt := 15) hx₀ hb dX0_trySecond_55 (by decide) ?_
      exact ihz1 _ (lf_j_trySecond_2 oz1 jz1 hiz1_0 hjz1 c_2) (oz1 + 1) (g_10 0) (g_10 1) (g_10 2) (g_10 3) tan tco (g_4 2) _ _ _ (lf_j_trySecond_1 oz1 jz1 hiz1_0 hjz1 c_2) rfl (hP.sub [3, 0, 1, 2] rfl) (hD.sub [3, 0, 1, 2] (by decide +kernel) rfl) hS (lv_sub hl [0, 1, 2, 3, 4, 5, 6, 7] rfl)
theorem lf_j_plan_1 (a0 : Int32) (a1 : Nat) (a2 : Int32) (a3 : Int32) (h0 : 1 ≤ a0 ∧ a0 ≤ 24) (h1 : (24 - a0.toInt).toNat = a1) (h2 : ¬ 24 ≤ a0) (h3 : a2 < a0) (h4 : ¬ a3 = a0) : 1 ≤ (a0 + 1) ∧ (a0 + 1) ≤ 24 := by
  first | rfl | assumption | decide | exact Or.inl rfl | (first | rfl | assumption | decide | omega | (have hr0 := Int32.toInt_lt a0; have hs0 := Int32.le_toInt a0; have hr1 := Int32.toInt_lt a2; have hs1 := Int32.le_toInt a2; have hr2 := Int32.toInt_lt a3; have hs2 := Int32.le_toInt a3; simp only [Int64.toInt_add, Int64.toInt_sub, Int32.toInt_add, Int32.toInt_sub, Int32.toInt_mul, Int64.le_iff_toInt_le, Int64.lt_iff_toInt_lt, Int32.le_iff_toInt_le, Int32.lt_iff_toInt_lt, ← Int32.toInt_inj, ← Int64.toInt_inj, Int32.toInt_toInt64, kc_1, kc_24, true_and, and_true, not_true_eq_false, not_false_eq_true] at * <;> ((first | omega | ((try simp (disch := omega) only [k_bm64] at *); (try simp (disch := omega) only [k_bm] at *); (try simp (disch := omega) only [k_bm] at *); omega) | (simp only [Int.bmod] at *; omega)))))
theorem lf_j_plan_2 (a0 : Int32) (a1 : Nat) (a2 : Int32) (a3 : Int32) (h0 : 1 ≤ a0 ∧ a0 ≤ 24) (h1 : (24 - a0.toInt).toNat = a1) (h2 : ¬ 24 ≤ a0) (h3 : a2 < a0) (h4 : ¬ a3 = a0) : (24 - (a0 + 1).toInt).toNat < a1 := by
  first | rfl | assumption | decide | exact Or.inl rfl | (first | rfl | assumption | decide | omega | (have hr0 := Int32.toInt_lt a0; have hs0 := Int32.le_toInt a0; have hr1 := Int32.toInt_lt a2; have hs1 := Int32.le_toInt a2; have hr2 := Int32.toInt_lt a3; have hs2 := Int32.le_toInt a3; simp only [Int64.toInt_add, Int64.toInt_sub, Int32.toInt_add, Int32.toInt_sub, Int32.toInt_mul, Int64.le_iff_toInt_le, Int64.lt_iff_toInt_lt, Int32.le_iff_toInt_le, Int32.lt_iff_toInt_lt, ← Int32.toInt_inj, ← Int64.toInt_inj, Int32.toInt_toInt64, kc_1, kc_24, true_and, and_true, not_true_eq_false, not_false_eq_true] at * <;> ((first | omega | ((try simp (disch := omega) only [k_bm64] at *); (try simp (disch := omega) only [k_bm] at *); (try simp (disch := omega) only [k_bm] at *); omega) | (simp only [Int.bmod] at *; omega)))))
theorem lf_j_plan_3 (a0 : Int32) (a1 : Nat) (a2 : Int32) (a3 : Int32) (h0 : 1 ≤ a0 ∧ a0 ≤ 24) (h1 : (24 - a0.toInt).toNat = a1) (h2 : ¬ 24 ≤ a0) (h3 : a2 < a0) (h4 : a3 = a0) : 1 ≤ (a0 + 1) ∧ (a0 + 1) ≤ 24 := by
  first | rfl | assumption | decide | exact Or.inl rfl | (first | rfl | assumption | decide | omega | (have hr0 := Int32.toInt_lt a0; have hs0 := Int32.le_toInt a0; have hr1 := Int32.toInt_lt a2; have hs1 := Int32.le_toInt a2; have hr2 := Int32.toInt_lt a3; have hs2 := Int32.le_toInt a3; simp only [Int64.toInt_add, Int64.toInt_sub, Int32.toInt_add, Int32.toInt_sub, Int32.toInt_mul, Int64.le_iff_toInt_le, Int64.lt_iff_toInt_lt, Int32.le_iff_toInt_le, Int32.lt_iff_toInt_lt, ← Int32.toInt_inj, ← Int64.toInt_inj, Int32.toInt_toInt64, kc_1, kc_24, true_and, and_true, not_true_eq_false, not_false_eq_true] at * <;> ((first | omega | ((try simp (disch := omega) only [k_bm64] at *); (try simp (disch := omega) only [k_bm] at *); (try simp (disch := omega) only [k_bm] at *); omega) | (simp only [Int.bmod] at *; omega)))))
theorem lf_j_plan_4 (a0 : Int32) (a1 : Nat) (a2 : Int32) (a3 : Int32) (h0 : 1 ≤ a0 ∧ a0 ≤ 24) (h1 : (24 - a0.toInt).toNat = a1) (h2 : ¬ 24 ≤ a0) (h3 : a2 < a0) (h4 : a3 = a0) : (24 - (a0 + 1).toInt).toNat < a1 := by
  first | rfl | assumption | decide | exact Or.inl rfl | (first | rfl | assumption | decide | omega | (have hr0 := Int32.toInt_lt a0; have hs0 := Int32.le_toInt a0; have hr1 := Int32.toInt_lt a2; have hs1 := Int32.le_toInt a2; have hr2 := Int32.toInt_lt a3; have hs2 := Int32.le_toInt a3; simp only [Int64.toInt_add, Int64.toInt_sub, Int32.toInt_add, Int32.toInt_sub, Int32.toInt_mul, Int64.le_iff_toInt_le, Int64.lt_iff_toInt_lt, Int32.le_iff_toInt_le, Int32.lt_iff_toInt_lt, ← Int32.toInt_inj, ← Int64.toInt_inj, Int32.toInt_toInt64, kc_1, kc_24, true_and, and_true, not_true_eq_false, not_false_eq_true] at * <;> ((first | omega | ((try simp (disch := omega) only [k_bm64] at *); (try simp (disch := omega) only [k_bm] at *); (try simp (disch := omega) only [k_bm] at *); omega) | (simp only [Int.bmod] at *; omega)))))
theorem lf_j_plan_5 (a0 : Int32) (a1 : Nat) (a2 : Int32) (a3 : Int32) (h0 : 1 ≤ a0 ∧ a0 ≤ 24) (h1 : (24 - a0.toInt).toNat = a1) (h2 : ¬ 24 ≤ a0) (h3 : ¬ a2 < a0) (h4 : ¬ a3 = a0) : 1 ≤ (a0 + 1) ∧ (a0 + 1) ≤ 24 := by
  first | rfl | assumption | decide | exact Or.inl rfl | (first | rfl | assumption | decide | omega | (have hr0 := Int32.toInt_lt a0; have hs0 := Int32.le_toInt a0; have hr1 := Int32.toInt_lt a2; have hs1 := Int32.le_toInt a2; have hr2 := Int32.toInt_lt a3; have hs2 := Int32.le_toInt a3; simp only [Int64.toInt_add, Int64.toInt_sub, Int32.toInt_add, Int32.toInt_sub, Int32.toInt_mul, Int64.le_iff_toInt_le, Int64.lt_iff_toInt_lt, Int32.le_iff_toInt_le, Int32.lt_iff_toInt_lt, ← Int32.toInt_inj, ← Int64.toInt_inj, Int32.toInt_toInt64, kc_1, kc_24, true_and, and_true, not_true_eq_false, not_false_eq_true] at * <;> ((first | omega | ((try simp (disch := omega) only [k_bm64] at *); (try simp (disch := omega) only [k_bm] at *); (try simp (disch := omega) only [k_bm] at *); omega) | (simp only [Int.bmod] at *; omega)))))
theorem lf_j_plan_6 (a0 : Int32) (a1 : Nat) (a2 : Int32) (a3 : Int32) (h0 : 1 ≤ a0 ∧ a0 ≤ 24) (h1 : (24 - a0.toInt).toNat = a1) (h2 : ¬ 24 ≤ a0) (h3 : ¬ a2 < a0) (h4 : ¬ a3 = a0) : (24 - (a0 + 1).toInt).toNat < a1 := by
  first | rfl | assumption | decide | exact Or.inl rfl | (first | rfl | assumption | decide | omega | (have hr0 := Int32.toInt_lt a0; have hs0 := Int32.le_toInt a0; have hr1 := Int32.toInt_lt a2; have hs1 := Int32.le_toInt a2; have hr2 := Int32.toInt_lt a3; have hs2 := Int32.le_toInt a3; simp only [Int64.toInt_add, Int64.toInt_sub, Int32.toInt_add, Int32.toInt_sub, Int32.toInt_mul, Int64.le_iff_toInt_le, Int64.lt_iff_toInt_lt, Int32.le_iff_toInt_le, Int32.lt_iff_toInt_lt, ← Int32.toInt_inj, ← Int64.toInt_inj, Int32.toInt_toInt64, kc_1, kc_24, true_and, and_true, not_true_eq_false, not_false_eq_true] at * <;> ((first | omega | ((try simp (disch := omega) only [k_bm64] at *); (try simp (disch := omega) only [k_bm] at *); (try simp (disch := omega) only [k_bm] at *); omega) | (simp only [Int.bmod] at *; omega)))))
theorem lf_j_plan_7 (a0 : Int32) (a1 : Nat) (a2 : Int32) (a3 : Int32) (h0 : 1 ≤ a0 ∧ a0 ≤ 24) (h1 : (24 - a0.toInt).toNat = a1) (h2 : ¬ 24 ≤ a0) (h3 : ¬ a2 < a0) (h4 : a3 = a0) : 1 ≤ (a0 + 1) ∧ (a0 + 1) ≤ 24 := by
  first | rfl | assumption | decide | exact Or.inl rfl | (first | rfl | assumption | decide | omega | (have hr0 := Int32.toInt_lt a0; have hs0 := Int32.le_toInt a0; have hr1 := Int32.toInt_lt a2; have hs1 := Int32.le_toInt a2; have hr2 := Int32.toInt_lt a3; have hs2 := Int32.le_toInt a3; simp only [Int64.toInt_add, Int64.toInt_sub, Int32.toInt_add, Int32.toInt_sub, Int32.toInt_mul, Int64.le_iff_toInt_le, Int64.lt_iff_toInt_lt, Int32.le_iff_toInt_le, Int32.lt_iff_toInt_lt, ← Int32.toInt_inj, ← Int64.toInt_inj, Int32.toInt_toInt64, kc_1, kc_24, true_and, and_true, not_true_eq_false, not_false_eq_true] at * <;> ((first | omega | ((try simp (disch := omega) only [k_bm64] at *); (try simp (disch := omega) only [k_bm] at *); (try simp (disch := omega) only [k_bm] at *); omega) | (simp only [Int.bmod] at *; omega)))))
theorem lf_j_plan_8 (a0 : Int32) (a1 : Nat) (a2 : Int32) (a3 : Int32) (h0 : 1 ≤ a0 ∧ a0 ≤ 24) (h1 : (24 - a0.toInt).toNat = a1) (h2 : ¬ 24 ≤ a0) (h3 : ¬ a2 < a0) (h4 : a3 = a0) : (24 - (a0 + 1).toInt).toNat < a1 := by
  first | rfl | assumption | decide | exact Or.inl rfl | (first | rfl | assumption | decide | omega | (have hr0 := Int32.toInt_lt a0; have hs0 := Int32.le_toInt a0; have hr1 := Int32.toInt_lt a2; have hs1 := Int32.le_toInt a2; have hr2 := Int32.toInt_lt a3; have hs2 := Int32.le_toInt a3; simp only [Int64.toInt_add, Int64.toInt_sub, Int32.toInt_add, Int32.toInt_sub, Int32.toInt_mul, Int64.le_iff_toInt_le, Int64.lt_iff_toInt_lt, Int32.le_iff_toInt_le, Int32.lt_iff_toInt_lt, ← Int32.toInt_inj, ← Int64.toInt_inj, Int32.toInt_toInt64, kc_1, kc_24, true_and, and_true, not_true_eq_false, not_false_eq_true] at * <;> ((first | omega | ((try simp (disch := omega) only [k_bm64] at *); (try simp (disch := omega) only [k_bm] at *); (try simp (disch := omega) only [k_bm] at *); omega) | (simp only [Int.bmod] at *; omega)))))
set_option maxHeartbeats 4000000 in
set_option maxRecDepth 100000 in
theorem j_plan (l : Launch) (dC : Nat → ClassId) (dI : Nat → Nat → Nat) (cI cJ cQ : ClassId) (sz : Nat) (aBe : Nat) (aTr : Nat) (mi : Int32) (k0 : Int32) (k1 : Int32) (k2 : Int32) (k3 : Int32) (aLa : Nat) (aPa : Nat) (aGe : Nat) (gL : Nat) (gR : Nat) (lf : Nat) (rt : Nat) (tgo : Int32) (tca : Int32) (tki : Int32) (tso : Int32) (tbe : Int32) (twe : Int32) (tle : Int32) (tan : Int32) (tco : Int32) (ten : Int32) (vLa : Nat) (l4 : Int32) (a4 : Int32) (n4 : Int32) (f4 : Nat → Int32) : Met l yX0_plan (kW yX0_plan cX0_plan 7 none) { frames := 3, cells := 0, slots := 0, locals := 76 } (kPre dC dI cI cJ cQ sz [.ref aBe, .ref aTr, .int mi] [(kX0 aBe k0 k1 k2 k3), (kX10 aTr aLa aPa aGe gL gR lf rt tgo tca tki tso tbe twe tle tan tco ten), (kX4 aLa vLa l4 a4 n4), (kAI vLa cI 24 f4)]) (va_Qv (fun (u : kS) => True) (fun (u : kS) t₀ => kB dC dI cI cJ cQ (va_A [(kX0 aBe k0 k1 k2 k3), (kX10 aTr aLa aPa aGe gL gR lf rt tgo tca tki tso tbe twe tle tan tco ten), (kX4 aLa vLa l4 a4 n4), (kAI vLa cI 24 f4)] sz) [(kX0 aBe (u.1 0) (u.1 1) (u.1 2) (u.1 3)), (kX10 aTr aLa aPa aGe gL gR lf rt tgo tca tki tso tbe twe tle (u.1 4) (u.1 5) (u.1 6)), (kX4 aLa vLa l4 a4 n4), (kAI vLa cI 24 f4)] t₀) (va_A [(kX0 aBe k0 k1 k2 k3), (kX10 aTr aLa aPa aGe gL gR lf rt tgo tca tki tso tbe twe tle tan tco ten), (kX4 aLa vLa l4 a4 n4), (kAI vLa cI 24 f4)] sz)) 0 0 (va_A [(kX0 aBe k0 k1 k2 k3), (kX10 aTr aLa aPa aGe gL gR lf rt tgo tca tki tso tbe twe tle tan tco ten), (kX4 aLa vLa l4 a4 n4), (kAI vLa cI 24 f4)] sz) := by
  refine Met.ofW (cc := cX0_plan) (maxL := 7) (ret := none) (by decide) rfl ?_
  intro p₀ e₀ s₀ m₀ args below meth c₀ s₁ B hml hv₀
  obtain ⟨rfl, hsz, hP, hK, hD0, hN⟩ := hv₀
  have hx₀ := B.exec
  have hb := B.bytes
  have hr := B.returns
  have hts := atoms_spec (ws := (kW yX0_plan cX0_plan 7 none)) B.pre
  have hts := fun w h => hts w (List.mem_cons_of_mem _ h)
  have hown : s₀.vm.findClass RX0 = some m₀.cls := findClass_of_methodNamed B.named
  have hlocks := B.notSynchronized
  subst hsz
  have hD := hD0.self (sz := s₀.heap.size)
  generalize hAe : va_A [(kX0 aBe k0 k1 k2 k3), (kX10 aTr aLa aPa aGe gL gR lf rt tgo tca tki tso tbe twe tle tan tco ten), (kX4 aLa vLa l4 a4 n4), (kAI vLa cI 24 f4)] s₀.heap.size = A at hD ⊢
  have hA : ∀ q : Nat, s₀.heap.size ≤ q → A q := fun q h => by rw [← hAe]; exact Or.inr h
  have hS : va_S A s₀.heap s₀.heap [] := va_S.rf
  have hP : va_P (dC, dI) vwCl [(kX0 aBe k0 k1 k2 k3), (kX10 aTr aLa aPa aGe gL gR lf rt tgo tca tki tso tbe twe tle tan tco ten), (kX4 aLa vLa l4 a4 n4), (kAI vLa cI 24 f4)] s₀.heap := hP
  have hl := lv_entry ([.ref aBe, .ref aTr, .int mi]) (n := 7) (Nat.le_of_ble_eq_true rfl)
  rw [lg_entry_eq]
  generalize (lg_sl ([.ref aBe, .ref aTr, .int mi]) ++ List.replicate (7 - (lg_sl ([.ref aBe, .ref aTr, .int mi])).length) Slot.unset).toArray = ls at hl ⊢
  have hl : lv_has ls 7 [(0, .ref aBe), (1, .ref aTr), (2, .int mi)] := hl
  obtain ⟨H, hH⟩ : ∃ z : Heap, z = s₀.heap := ⟨_, rfl⟩
  rw [← hH] at hP
  have hS : va_S A s₀.heap H [] := by rw [hH]; exact hS
  refine k_heap hH ?_
  have hD : va_D A [(kX0 aBe k0 k1 k2 k3), (kX10 aTr aLa aPa aGe gL gR lf rt tgo tca tki tso tbe twe tle tan tco ten), (kX4 aLa vLa l4 a4 n4), (kAI vLa cI 24 f4)] := hD
  obtain ⟨locs, hlo⟩ : ∃ z : List Loc, z = [] := ⟨_, rfl⟩
  rw [← hlo] at hS ⊢
  clear hlo hH hAe hD0
  refine lv_aload_n hx₀ hb dX0_plan_0 rfl (lv_at hl 0 rfl) ?_
  refine lv_iconst (v := (-1)) hx₀ hb dX0_plan_1 (by decide +kernel) ?_
  refine va_put (D := (dC, dI)) (ci := 0) (v := .int (-1)) (ty := .int) (C := RX0) (T := TX0) (N := 4) hx₀ hb hts inlX0 tyX0 tyX0_ok nmX0 hown hK hP hD hS 0 rfl rfl 0 (by decide) (hts (.fieldLink RX0 21 "BittenStick$Climb" "far" "I") wd_619) (fun _ h9 => h9) rfl (by decide +kernel) rfl rfl (Nat.le_of_ble_eq_true rfl) dX0_plan_2 ?_
  clear hP hD hS
  intro H locs hP hD hS
  replace hP := k_w2 (wt := [(kX0 aBe (-1) k1 k2 k3), (kX10 aTr aLa aPa aGe gL gR lf rt tgo tca tki tso tbe twe tle tan tco ten), (kX4 aLa vLa l4 a4 n4), (kAI vLa cI 24 f4)]) hP hD rfl
  replace hD := hP.2
  replace hP := hP.1
  refine lv_iconst (v := 1) hx₀ hb dX0_plan_5 (by decide +kernel) ?_
  refine lv_istore_n (lv' := [(3, .int 1), (0, .ref aBe), (1, .ref aTr), (2, .int mi)]) hx₀ hb dX0_plan_6 rfl hl (by decide) rfl (fun ls hl => ?_)
  refine (?keyz1 : ∀ (jz1 : Nat) (egz1 : Int32) (y0z1 : Int32) (y1z1 : Int32) (y2z1 : Int32) (y3z1 : Int32) (x1z1 : Int32) (x2z1 : Int32) (x3z1 : Int32) (H : Heap) (locs : List Loc) (ls : Array Slot), (1 ≤ egz1 ∧ egz1 ≤ 10) → ((10 - egz1.toInt).toNat = jz1) → va_P (dC, dI) vwCl [(kX0 aBe y0z1 y1z1 y2z1 y3z1), (kX10 aTr aLa aPa aGe gL gR lf rt tgo tca tki tso tbe twe tle x1z1 x2z1 x3z1), (kX4 aLa vLa l4 a4 n4), (kAI vLa cI 24 f4)] H → va_D A [(kX0 aBe y0z1 y1z1 y2z1 y3z1), (kX10 aTr aLa aPa aGe gL gR lf rt tgo tca tki tso tbe twe tle x1z1 x2z1 x3z1), (kX4 aLa vLa l4 a4 n4), (kAI vLa cI 24 f4)] → va_S A s₀.heap H locs → lv_has ls 7 [(3, .int egz1), (0, .ref aBe), (1, .ref aTr), (2, .int mi)] → W p₀ l e₀ _ s₀ m₀ _ below meth c₀ H locs _ _ _ (F0 m₀ 7 ls [])) _ (1 : Int32) (-1 : Int32) k1 k2 k3 tan tco ten H locs ls (show 1 ≤ (1 : Int32) ∧ (1 : Int32) ≤ 10 from ⟨(by decide), (by decide)⟩) rfl hP hD hS hl
  clear hP hD hS hl
  intro jz1
  induction jz1 using Nat.strongRecOn with
  | ind jz1 ihz1 =>
    intro egz1 y0z1 y1z1 y2z1 y3z1 x1z1 x2z1 x3z1 H locs ls hiz1_0 hjz1 hP hD hS hl
    refine lv_iload_n hx₀ hb dX0_plan_7 rfl (lv_at hl 0 rfl) ?_
    refine lv_bipush (v := 9) hx₀ hb dX0_plan_8 (by decide +kernel) ?_
    refine lv_icmp_gt (tgt := 127) hx₀ hb dX0_plan_10 (by decide) (fun c_2 => ?_) (fun c_2 => ?_)
    · obtain ⟨hP9, hD9⟩ := k_c2 (wc := [(kX0 aBe y0z1 y1z1 y2z1 y3z1), (kX10 aTr aLa aPa aGe gL gR lf rt tgo tca tki tso tbe twe tle x1z1 x2z1 x3z1), (kX4 aLa vLa l4 a4 n4), (kAI vLa cI 24 f4)]) hP hD [0, 1, 2, 3] (by decide +kernel) rfl
      exact W.vret hx₀ hb hr (fun t₀ ht hW => ⟨⟨(k_fn [y0z1, y1z1, y2z1, y3z1, x1z1, x2z1, x3z1], k_fa [], k_fl [], k_fL [], k_fp []), rfl, trivial, by rw [ht]; exact hP9, va_K.moved hW.alike hK, hD9⟩, hS.F ht⟩) hS.2.2 dX0_plan_127
    · refine lv_aload_n hx₀ hb dX0_plan_13 rfl (lv_at hl 1 rfl) ?_
      refine va_get (D := (dC, dI)) (ci := 0) (v := .int y0z1) (C := RX0) (T := TX0) (N := 4) hx₀ hb hts inlX0 hown hK hP 0 rfl rfl 0 (by decide) (hts (.fieldLink RX0 21 "BittenStick$Climb" "far" "I") wd_619) (fun _ h9 => h9) rfl dX0_plan_14 ?_
      refine lv_aload_n hx₀ hb dX0_plan_17 rfl (lv_at hl 2 rfl) ?_
      refine va_get (D := (dC, dI)) (ci := 9) (v := .int tca) (C := RX10) (T := TX10) (N := 17) hx₀ hb hts inlX10 hown hK hP 1 rfl rfl 8 (by decide) (hts (.fieldLink RX0 24 "BittenStick$Trip" "carriedTo" "I") wd_620) (fun _ h9 => h9) rfl dX0_plan_18 ?_
      refine lv_icmp_ge (tgt := 127) hx₀ hb dX0_plan_21 (by decide) (fun c_3 => ?_) (fun c_3 => ?_)
      · obtain ⟨hP9, hD9⟩ := k_c2 (wc := [(kX0 aBe y0z1 y1z1 y2z1 y3z1), (kX10 aTr aLa aPa aGe gL gR lf rt tgo tca tki tso tbe twe tle x1z1 x2z1 x3z1), (kX4 aLa vLa l4 a4 n4), (kAI vLa cI 24 f4)]) hP hD [0, 1, 2, 3] (by decide +kernel) rfl
        exact W.vret hx₀ hb hr (fun t₀ ht hW => ⟨⟨(k_fn [y0z1, y1z1, y2z1, y3z1, x1z1, x2z1, x3z1], k_fa [], k_fl [], k_fL [], k_fp []), rfl, trivial, by rw [ht]; exact hP9, va_K.moved hW.alike hK, hD9⟩, hS.F ht⟩) hS.2.2 dX0_plan_127
      · refine lv_aload_n hx₀ hb dX0_plan_24 rfl (lv_at hl 2 rfl) ?_
        obtain ⟨hPc, hDc, hFc, hC⟩ := k_cw (wc := [(kX10 aTr aLa aPa aGe gL gR lf rt tgo tca tki tso tbe twe tle x1z1 x2z1 x3z1)]) hP hD hS hA [1] (by decide +kernel) rfl
        refine va_callv (va_runV (As := []) (rest := []) ⟨hx₀, hb, hml, hown, hts⟩ (j_tSet l dC dI cI cJ cQ H.size aTr aLa aPa aGe gL gR lf rt tgo tca tki tso tbe twe tle x1z1 x2z1 x3z1) (cwV 0 hts (kGV wd_499 wd_622 wd_497 wd_498 wd_30) rfl rfl rfl (by decide +kernel) ⟨Nat.le_of_ble_eq_true rfl, Nat.le_of_ble_eq_true rfl⟩) (k_preV9 (q0 := 0) hK hPc hDc hN rfl) rfl rfl hl.1 rfl (lv_room (Nat.le_of_ble_eq_true rfl)) dX0_plan_25 ⟨by decide +kernel, by decide +kernel⟩) hS (fun q _ h => hFc q h) hFc (fun u₀ t₀ H1 locs ht hvm hw hB hz1 hk1 hS => ?_)
        obtain ⟨g_5, ga_6, gl_7, gb_8, gp_9⟩ := u₀
        obtain ⟨hP1, hK1, hD1⟩ := hB
        rw [ht] at hP1
        have hJ := k_jn (wr := [(kX0 aBe y0z1 y1z1 y2z1 y3z1), (kX4 aLa vLa l4 a4 n4), (kAI vLa cI 24 f4)]) (wt := [(kX0 aBe y0z1 y1z1 y2z1 y3z1), (kX4 aLa vLa l4 a4 n4), (kAI vLa cI 24 f4), (kX10 aTr aLa aPa aGe gL gR lf rt tgo tca tki tso tbe twe tle 0 0 (g_5 0))]) hP hD hC [0, 2, 3] rfl (by decide +kernel) (by decide +kernel) hk1 hFc hP1 hD1 rfl
        clear hP hD hPc hDc hFc hC hP1 hD1 hK1 hz1 hk1 hvm ht
        obtain ⟨hP, hD⟩ := hJ
        generalize H1 = H at hP hS ⊢
        try dsimp only at hw
        have c_10 := hw
        rw [c_10] at hP hD
        replace hP := k_w2 (wt := [(kX0 aBe y0z1 y1z1 y2z1 y3z1), (kX4 aLa vLa l4 a4 n4), (kAI vLa cI 24 f4), (kX10 aTr aLa aPa aGe gL gR lf rt tgo tca tki tso tbe twe tle 0 0 (if tgo = 0 then 1 else 0))]) hP hD rfl
        replace hD := hP.2
        replace hP := hP.1
        refine lv_iconst (v := 1) hx₀ hb dX0_plan_28 (by decide +kernel) ?_
        refine lv_istore (lv' := [(4, .int 1), (3, .int egz1), (0, .ref aBe), (1, .ref aTr), (2, .int mi)]) hx₀ hb dX0_plan_29 hl (by decide) rfl (fun ls hl => ?_)
        refine lv_iconst (v := 1) hx₀ hb dX0_plan_31 (by decide +kernel) ?_
        refine lv_istore (lv' := [(5, .int 1), (4, .int 1), (3, .int egz1), (0, .ref aBe), (1, .ref aTr), (2, .int mi)]) hx₀ hb dX0_plan_32 hl (by decide) rfl (fun ls hl => ?_)
        refine (?keyz11 : ∀ (jz11 : Nat) (flz11 : Int32) (mz11 : Int32) (y0z11 : Int32) (y1z11 : Int32) (y2z11 : Int32) (y3z11 : Int32) (x1z11 : Int32) (x2z11 : Int32) (x3z11 : Int32) (H : Heap) (locs : List Loc) (ls : Array Slot), (1 ≤ mz11 ∧ mz11 ≤ 24) → ((24 - mz11.toInt).toNat = jz11) → va_P (dC, dI) vwCl [(kX0 aBe y0z11 y1z11 y2z11 y3z11), (kX4 aLa vLa l4 a4 n4), (kAI vLa cI 24 f4), (kX10 aTr aLa aPa aGe gL gR lf rt tgo tca tki tso tbe twe tle x1z11 x2z11 x3z11)] H → va_D A [(kX0 aBe y0z11 y1z11 y2z11 y3z11), (kX4 aLa vLa l4 a4 n4), (kAI vLa cI 24 f4), (kX10 aTr aLa aPa aGe gL gR lf rt tgo tca tki tso tbe twe tle x1z11 x2z11 x3z11)] → va_S A s₀.heap H locs → lv_has ls 7 [(5, .int mz11), (4, .int flz11), (3, .int egz1), (0, .ref aBe), (1, .ref aTr), (2, .int mi)] → W p₀ l e₀ _ s₀ m₀ _ below meth c₀ H locs _ _ _ (F0 m₀ 34 ls [])) _ (1 : Int32) (1 : Int32) y0z1 y1z1 y2z1 y3z1 (0 : Int32) (0 : Int32) (if tgo = 0 then 1 else 0) H locs ls (show 1 ≤ (1 : Int32) ∧ (1 : Int32) ≤ 24 from ⟨(by decide), (by decide)⟩) rfl hP hD hS hl
        clear hP hD hS hl
        intro jz11
        induction jz11 using Nat.strongRecOn with
        | ind jz11 ihz11 =>
          intro flz11 mz11 y0z11 y1z11 y2z11 y3z11 x1z11 x2z11 x3z11 H locs ls hiz11_0 hjz11 hP hD hS hl
          refine lv_iload hx₀ hb dX0_plan_34 (lv_at hl 0 rfl) ?_
          refine lv_bipush (v := 24) hx₀ hb dX0_plan_36 (by decide +kernel) ?_
          refine lv_icmp_ge (tgt := 121) hx₀ hb dX0_plan_38 (by decide) (fun c_12 => ?_) (fun c_12 => ?_)
          · refine lv_iinc (v := egz1 + 1) (lv' := [(3, .int (egz1 + 1)), (5, .int mz11), (4, .int flz11), (0, .ref aBe), (1, .ref aTr), (2, .int mi)]) hx₀ hb dX0_plan_121 hl (k := 2) rfl rfl (by decide) rfl (fun ls hl => ?_)
            refine lv_goto (tgt := 7) hx₀ hb dX0_plan_124 (by decide) ?_
            exact ihz1 _ (lf_j_trySecond_2 egz1 jz1 hiz1_0 hjz1 c_2) (egz1 + 1) y0z11 y1z11 y2z11 y3z11 x1z11 x2z11 x3z11 _ _ _ (lf_j_trySecond_1 egz1 jz1 hiz1_0 hjz1 c_2) rfl (hP.sub [0, 3, 1, 2] rfl) (hD.sub [0, 3, 1, 2] (by decide +kernel) rfl) hS (lv_sub hl [0, 3, 4, 5] rfl)
          · refine lv_iload hx₀ hb dX0_plan_41 (lv_at hl 1 rfl) ?_
            refine lv_if_eq (tgt := 121) hx₀ hb dX0_plan_43 (by decide) (fun c_13 => ?_) (fun c_13 => ?_)
            · refine lv_iinc (v := egz1 + 1) (lv' := [(3, .int (egz1 + 1)), (5, .int mz11), (4, .int flz11), (0, .ref aBe), (1, .ref aTr), (2, .int mi)]) hx₀ hb dX0_plan_121 hl (k := 2) rfl rfl (by decide) rfl (fun ls hl => ?_)
              refine lv_goto (tgt := 7) hx₀ hb dX0_plan_124 (by decide) ?_
              exact ihz1 _ (lf_j_trySecond_2 egz1 jz1 hiz1_0 hjz1 c_2) (egz1 + 1) y0z11 y1z11 y2z11 y3z11 x1z11 x2z11 x3z11 _ _ _ (lf_j_trySecond_1 egz1 jz1 hiz1_0 hjz1 c_2) rfl (hP.sub [0, 3, 1, 2] rfl) (hD.sub [0, 3, 1, 2] (by decide +kernel) rfl) hS (lv_sub hl [0, 3, 4, 5] rfl)
            · refine lv_aload_n hx₀ hb dX0_plan_46 rfl (lv_at hl 3 rfl) ?_
              refine va_get (D := (dC, dI)) (ci := 0) (v := .int y0z11) (C := RX0) (T := TX0) (N := 4) hx₀ hb hts inlX0 hown hK hP 0 rfl rfl 0 (by decide) (hts (.fieldLink RX0 21 "BittenStick$Climb" "far" "I") wd_619) (fun _ h9 => h9) rfl dX0_plan_47 ?_
              refine lv_aload_n hx₀ hb dX0_plan_50 rfl (lv_at hl 4 rfl) ?_
              refine va_get (D := (dC, dI)) (ci := 9) (v := .int tca) (C := RX10) (T := TX10) (N := 17) hx₀ hb hts inlX10 hown hK hP 3 rfl rfl 8 (by decide) (hts (.fieldLink RX0 24 "BittenStick$Trip" "carriedTo" "I") wd_620) (fun _ h9 => h9) rfl dX0_plan_51 ?_
              refine lv_icmp_ge (tgt := 121) hx₀ hb dX0_plan_54 (by decide) (fun c_14 => ?_) (fun c_14 => ?_)
              · refine lv_iinc (v := egz1 + 1) (lv' := [(3, .int (egz1 + 1)), (5, .int mz11), (4, .int flz11), (0, .ref aBe), (1, .ref aTr), (2, .int mi)]) hx₀ hb dX0_plan_121 hl (k := 2) rfl rfl (by decide) rfl (fun ls hl => ?_)
                refine lv_goto (tgt := 7) hx₀ hb dX0_plan_124 (by decide) ?_
                exact ihz1 _ (lf_j_trySecond_2 egz1 jz1 hiz1_0 hjz1 c_2) (egz1 + 1) y0z11 y1z11 y2z11 y3z11 x1z11 x2z11 x3z11 _ _ _ (lf_j_trySecond_1 egz1 jz1 hiz1_0 hjz1 c_2) rfl (hP.sub [0, 3, 1, 2] rfl) (hD.sub [0, 3, 1, 2] (by decide +kernel) rfl) hS (lv_sub hl [0, 3, 4, 5] rfl)
              · refine lv_aload_n hx₀ hb dX0_plan_57 rfl (lv_at hl 4 rfl) ?_
                refine lv_iload hx₀ hb dX0_plan_58 (lv_at hl 0 rfl) ?_
                refine lv_iconst (v := 1) hx₀ hb dX0_plan_60 (by decide +kernel) ?_
                refine lv_isub hx₀ hb dX0_plan_61 ?_
                refine lv_iload hx₀ hb dX0_plan_62 (lv_at hl 0 rfl) ?_
                refine lv_iload_n hx₀ hb dX0_plan_64 rfl (lv_at hl 5 rfl) ?_
                refine va_mmin hx₀ hb (by rw [hml]; exact hl.1.symm) hown (hts (.methodLink RX0 32 Lib.Math.min.name) wd_621) (hts (.static Lib.Math.min.name) wd_219) (hts (.initialized "java/lang/Math") wd_63) (hts (.code Lib.Math.min.name Lib.Math.min.code 2 (some .int)) wd_220) (by decide) (Nat.le_of_ble_eq_true rfl) (by decide) (by decide) dX0_plan_65 ?_
                by_cases c_15 : mi < mz11
                · refine k_topi (v := mi) (if_pos c_15) ?_
                  refine lv_iload_n hx₀ hb dX0_plan_68 rfl (lv_at hl 2 rfl) ?_
                  obtain ⟨hPc, hDc, hFc, hC⟩ := k_cw (wc := [(kX10 aTr aLa aPa aGe gL gR lf rt tgo tca tki tso tbe twe tle x1z11 x2z11 x3z11), (kX4 aLa vLa l4 a4 n4), (kAI vLa cI 24 f4)]) hP hD hS hA [3, 1, 2] (by decide +kernel) rfl
                  refine va_calli (va_runV (As := [.int (mz11 - 1), .int mi, .int egz1]) (rest := []) ⟨hx₀, hb, hml, hown, hts⟩ (j_goOn l dC dI cI cJ cQ H.size aTr (mz11 - 1) mi egz1 aLa aPa aGe gL gR lf rt tgo tca tki tso tbe twe tle x1z11 x2z11 x3z11 vLa l4 a4 n4 f4) (cwV 3 hts (kGV wd_506 wd_623 wd_504 wd_505 wd_30) rfl rfl rfl (by decide +kernel) ⟨Nat.le_of_ble_eq_true rfl, Nat.le_of_ble_eq_true rfl⟩) (k_preV9 (q0 := 0) hK hPc hDc hN rfl) rfl rfl hl.1 rfl (lv_room (Nat.le_of_ble_eq_true rfl)) dX0_plan_69 ⟨by decide +kernel, by decide +kernel⟩) hS (fun q _ h => hFc q h) hFc (fun r_16 u₀ t₀ H1 locs ht hvm hw hB hz1 hk1 hS => ?_)
                  obtain ⟨g_17, ga_18, gl_19, gb_20, gp_21⟩ := u₀
                  obtain ⟨hP1, hK1, hD1⟩ := hB
                  rw [ht] at hP1
                  have hJ := k_jn (wr := [(kX0 aBe y0z11 y1z11 y2z11 y3z11)]) (wt := [(kX0 aBe y0z11 y1z11 y2z11 y3z11), (kX10 aTr aLa aPa aGe gL gR lf rt tgo tca tki tso tbe twe tle (g_17 0) (g_17 1) (g_17 2)), (kX4 aLa vLa l4 a4 n4), (kAI vLa cI 24 f4)]) hP hD hC [0] rfl (by decide +kernel) (by decide +kernel) hk1 hFc hP1 hD1 rfl
                  clear hP hD hPc hDc hFc hC hP1 hD1 hK1 hz1 hk1 hvm ht
                  obtain ⟨hP, hD⟩ := hJ
                  generalize H1 = H at hP hS ⊢
                  try dsimp only at hw
                  refine lv_istore (lv' := [(6, .int r_16), (5, .int mz11), (4, .int flz11), (3, .int egz1), (0, .ref aBe), (1, .ref aTr), (2, .int mi)]) hx₀ hb dX0_plan_72 hl (by decide) rfl (fun ls hl => ?_)
                  refine lv_iload hx₀ hb dX0_plan_74 (lv_at hl 0 rfl) ?_
                  refine lv_iload hx₀ hb dX0_plan_76 (lv_at hl 1 rfl) ?_
                  refine lv_icmp_ne (tgt := 85) hx₀ hb dX0_plan_78 (by decide) (fun c_22 => ?_) (fun c_22 => ?_)
                  · refine lv_iconst (v := 0) hx₀ hb dX0_plan_85 (by decide +kernel) ?_
                    refine lv_istore (lv' := [(4, .int 0), (6, .int r_16), (5, .int mz11), (3, .int egz1), (0, .ref aBe), (1, .ref aTr), (2, .int mi)]) hx₀ hb dX0_plan_86 hl (by decide) rfl (fun ls hl => ?_)
                    refine lv_iload hx₀ hb dX0_plan_88 (lv_at hl 0 rfl) ?_
                    refine lv_if_eq (tgt := 105) hx₀ hb dX0_plan_90 (by decide) (fun _ => ?_) (fun c9 => absurd (by decide +kernel) c9)
                    refine lv_aload_n hx₀ hb dX0_plan_105 rfl (lv_at hl 4 rfl) ?_
                    refine lv_iload hx₀ hb dX0_plan_106 (lv_at hl 1 rfl) ?_
                    refine lv_iload_n hx₀ hb dX0_plan_108 rfl (lv_at hl 3 rfl) ?_
                    refine lv_iload hx₀ hb dX0_plan_109 (lv_at hl 2 rfl) ?_
                    refine lv_iconst (v := 1) hx₀ hb dX0_plan_111 (by decide +kernel) ?_
                    obtain ⟨hPc, hDc, hFc, hC⟩ := k_cw (wc := [(kX0 aBe y0z11 y1z11 y2z11 y3z11)]) hP hD hS hA [0] (by decide +kernel) rfl
                    refine va_callv (va_runV (As := [.int r_16, .int egz1, .int mz11, .int 1]) (rest := []) ⟨hx₀, hb, hml, hown, hts⟩ (j_note l dC dI cI cJ cQ H.size aBe r_16 egz1 mz11 1 y0z11 y1z11 y2z11 y3z11) (cwV 4 hts (kGV wd_633 wd_630 wd_631 wd_632 wd_34) rfl rfl rfl (by decide +kernel) ⟨Nat.le_of_ble_eq_true rfl, Nat.le_of_ble_eq_true rfl⟩) (k_preV0 (q0 := 0) hK hPc hDc hN rfl) rfl rfl hl.1 rfl (lv_room (Nat.le_of_ble_eq_true rfl)) dX0_plan_112 ⟨by decide +kernel, by decide +kernel⟩) hS (fun q _ h => hFc q h) hFc (fun u₀ t₀ H1 locs ht hvm hw hB hz1 hk1 hS => ?_)
                    obtain ⟨g_24, ga_25, gl_26, gb_27, gp_28⟩ := u₀
                    obtain ⟨hP1, hK1, hD1⟩ := hB
                    rw [ht] at hP1
                    have hJ := k_jn (wr := [(kX10 aTr aLa aPa aGe gL gR lf rt tgo tca tki tso tbe twe tle (g_17 0) (g_17 1) (g_17 2)), (kX4 aLa vLa l4 a4 n4), (kAI vLa cI 24 f4)]) (wt := [(kX10 aTr aLa aPa aGe gL gR lf rt tgo tca tki tso tbe twe tle (g_17 0) (g_17 1) (g_17 2)), (kX4 aLa vLa l4 a4 n4), (kAI vLa cI 24 f4), (kX0 aBe (g_24 0) (g_24 1) (g_24 2) (g_24 3))]) hP hD hC [1, 2, 3] rfl (by decide +kernel) (by decide +kernel) hk1 hFc hP1 hD1 rfl
                    clear hP hD hPc hDc hFc hC hP1 hD1 hK1 hz1 hk1 hvm ht
                    obtain ⟨hP, hD⟩ := hJ
                    generalize H1 = H at hP hS ⊢
                    refine lv_iinc (v := mz11 + 1) (lv' := [(5, .int (mz11 + 1)), (4, .int 0), (6, .int r_16), (3, .int egz1), (0, .ref aBe), (1, .ref aTr), (2, .int mi)]) hx₀ hb dX0_plan_115 hl (k := 2) rfl rfl (by decide) rfl (fun ls hl => ?_)
                    refine lv_goto (tgt := 34) hx₀ hb dX0_plan_118 (by decide) ?_
                    exact ihz11 _ (lf_j_plan_2 mz11 jz11 mi r_16 hiz11_0 hjz11 c_12 c_15 c_22) (0 : Int32) (mz11 + 1) (g_24 0) (g_24 1) (g_24 2) (g_24 3) (g_17 0) (g_17 1) (g_17 2) _ _ _ (lf_j_plan_1 mz11 jz11 mi r_16 hiz11_0 hjz11 c_12 c_15 c_22) rfl (hP.sub [3, 1, 2, 0] rfl) (hD.sub [3, 1, 2, 0] (by decide +kernel) rfl) hS (lv_sub hl [0, 1, 3, 4, 5, 6] rfl)
                  · refine lv_iconst (v := 1) hx₀ hb dX0_plan_81 (by decide +kernel) ?_
                    refine lv_goto (tgt := 86) hx₀ hb dX0_plan_82 (by decide) ?_
                    refine lv_istore (lv' := [(4, .int 1), (6, .int r_16), (5, .int mz11), (3, .int egz1), (0, .ref aBe), (1, .ref aTr), (2, .int mi)]) hx₀ hb dX0_plan_86 hl (by decide) rfl (fun ls hl => ?_)
                    refine lv_iload hx₀ hb dX0_plan_88 (lv_at hl 0 rfl) ?_
                    refine lv_if_eq (tgt := 105) hx₀ hb dX0_plan_90 (by decide) (fun c9 => absurd c9 (by decide +kernel)) (fun _ => ?_)
                    refine lv_aload_n hx₀ hb dX0_plan_93 rfl (lv_at hl 4 rfl) ?_
                    refine lv_aload_n hx₀ hb dX0_plan_94 rfl (lv_at hl 5 rfl) ?_
                    refine lv_iload_n hx₀ hb dX0_plan_95 rfl (lv_at hl 6 rfl) ?_
                    refine lv_iload_n hx₀ hb dX0_plan_96 rfl (lv_at hl 3 rfl) ?_
                    refine lv_iload hx₀ hb dX0_plan_97 (lv_at hl 2 rfl) ?_
                    obtain ⟨hPc, hDc, hFc, hC⟩ := k_cw (wc := [(kX0 aBe y0z11 y1z11 y2z11 y3z11), (kX10 aTr aLa aPa aGe gL gR lf rt tgo tca tki tso tbe twe tle (g_17 0) (g_17 1) (g_17 2)), (kX4 aLa vLa l4 a4 n4), (kAI vLa cI 24 f4)]) hP hD hS hA [0, 1, 2, 3] (by decide +kernel) rfl
                    refine va_callv (va_runV (As := [.ref aTr, .int mi, .int egz1, .int mz11]) (rest := []) ⟨hx₀, hb, hml, hown, hts⟩ (j_trySecond l dC dI cI cJ cQ H.size aBe aTr mi egz1 mz11 y0z11 y1z11 y2z11 y3z11 aLa aPa aGe gL gR lf rt tgo tca tki tso tbe twe tle (g_17 0) (g_17 1) (g_17 2) vLa l4 a4 n4 f4) (cwV 4 hts (kGV wd_627 wd_624 wd_625 wd_626 wd_34) rfl rfl rfl (by decide +kernel) ⟨Nat.le_of_ble_eq_true rfl, Nat.le_of_ble_eq_true rfl⟩) (k_preV0 (q0 := 0) hK hPc hDc hN rfl) rfl rfl hl.1 rfl (lv_room (Nat.le_of_ble_eq_true rfl)) dX0_plan_99 ⟨by decide +kernel, by decide +kernel⟩) hS (fun q _ h => hFc q h) hFc (fun u₀ t₀ H1 locs ht hvm hw hB hz1 hk1 hS => ?_)
                    obtain ⟨g_30, ga_31, gl_32, gb_33, gp_34⟩ := u₀
                    obtain ⟨hP1, hK1, hD1⟩ := hB
                    rw [ht] at hP1
                    have hJ := k_jn (wr := []) (wt := [(kX0 aBe (g_30 0) (g_30 1) (g_30 2) (g_30 3)), (kX10 aTr aLa aPa aGe gL gR lf rt tgo tca tki tso tbe twe tle (g_30 4) (g_30 5) (g_30 6)), (kX4 aLa vLa l4 a4 n4), (kAI vLa cI 24 f4)]) hP hD hC [] rfl (by decide +kernel) (by decide +kernel) hk1 hFc hP1 hD1 rfl
                    clear hP hD hPc hDc hFc hC hP1 hD1 hK1 hz1 hk1 hvm ht
                    obtain ⟨hP, hD⟩ := hJ
                    generalize H1 = H at hP hS ⊢
                    refine lv_goto (tgt := 115) hx₀ hb dX0_plan_102 (by decide) ?_
                    refine lv_iinc (v := mz11 + 1) (lv' := [(5, .int (mz11 + 1)), (4, .int 1), (6, .int r_16), (3, .int egz1), (0, .ref aBe), (1, .ref aTr), (2, .int mi)]) hx₀ hb dX0_plan_115 hl (k := 2) rfl rfl (by decide) rfl (fun ls hl => ?_)
                    refine lv_goto (tgt := 34) hx₀ hb dX0_plan_118 (by decide) ?_
                    exact ihz11 _ (lf_j_plan_4 mz11 jz11 mi r_16 hiz11_0 hjz11 c_12 c_15 c_22) (1 : Int32) (mz11 + 1) (g_30 0) (g_30 1) (g_30 2) (g_30 3) (g_30 4) (g_30 5) (g_30 6) _ _ _ (lf_j_plan_3 mz11 jz11 mi r_16 hiz11_0 hjz11 c_12 c_15 c_22) rfl (hP.sub [0, 2, 3, 1] rfl) (hD.sub [0, 2, 3, 1] (by decide +kernel) rfl) hS (lv_sub hl [0, 1, 3, 4, 5, 6] rfl)
                refine k_topi (v := mz11) (if_neg c_15) ?_
                refine lv_iload_n hx₀ hb dX0_plan_68 rfl (lv_at hl 2 rfl) ?_
                obtain ⟨hPc, hDc, hFc, hC⟩ := k_cw (wc := [(kX10 aTr aLa aPa aGe gL gR lf rt tgo tca tki tso tbe twe tle x1z11 x2z11 x3z11), (kX4 aLa vLa l4 a4 n4), (kAI vLa cI 24 f4)]) hP hD hS hA [3, 1, 2] (by decide +kernel) rfl
                refine va_calli (va_runV (As := [.int (mz11 - 1), .int mz11, .int egz1]) (rest := []) ⟨hx₀, hb, hml, hown, hts⟩ (j_goOn l dC dI cI cJ cQ H.size aTr (mz11 - 1) mz11 egz1 aLa aPa aGe gL gR lf rt tgo tca tki tso tbe twe tle x1z11 x2z11 x3z11 vLa l4 a4 n4 f4) (cwV 3 hts (kGV wd_506 wd_623 wd_504 wd_505 wd_30) rfl rfl rfl (by decide +kernel) ⟨Nat.le_of_ble_eq_true rfl, Nat.le_of_ble_eq_true rfl⟩) (k_preV9 (q0 := 0) hK hPc hDc hN rfl) rfl rfl hl.1 rfl (lv_room (Nat.le_of_ble_eq_true rfl)) dX0_plan_69 ⟨by decide +kernel, by decide +kernel⟩) hS (fun q _ h => hFc q h) hFc (fun r_35 u₀ t₀ H1 locs ht hvm hw hB hz1 hk1 hS => ?_)
                obtain ⟨g_36, ga_37, gl_38, gb_39, gp_40⟩ := u₀
                obtain ⟨hP1, hK1, hD1⟩ := hB
                rw [ht] at hP1
                have hJ := k_jn (wr := [(kX0 aBe y0z11 y1z11 y2z11 y3z11)]) (wt := [(kX0 aBe y0z11 y1z11 y2z11 y3z11), (kX10 aTr aLa aPa aGe gL gR lf rt tgo tca tki tso tbe twe tle (g_36 0) (g_36 1) (g_36 2)), (kX4 aLa vLa l4 a4 n4), (kAI vLa cI 24 f4)]) hP hD hC [0] rfl (by decide +kernel) (by decide +kernel) hk1 hFc hP1 hD1 rfl
                clear hP hD hPc hDc hFc hC hP1 hD1 hK1 hz1 hk1 hvm ht
                obtain ⟨hP, hD⟩ := hJ
                generalize H1 = H at hP hS ⊢
                try dsimp only at hw
                refine lv_istore (lv' := [(6, .int r_35), (5, .int mz11), (4, .int flz11), (3, .int egz1), (0, .ref aBe), (1, .ref aTr), (2, .int mi)]) hx₀ hb dX0_plan_72 hl (by decide) rfl (fun ls hl => ?_)
                refine lv_iload hx₀ hb dX0_plan_74 (lv_at hl 0 rfl) ?_
                refine lv_iload hx₀ hb dX0_plan_76 (lv_at hl 1 rfl) ?_
                refine lv_icmp_ne (tgt := 85) hx₀ hb dX0_plan_78 (by decide) (fun c_41 => ?_) (fun c_41 => ?_)
                · refine lv_iconst (v := 0) hx₀ hb dX0_plan_85 (by decide +kernel) ?_
                  refine lv_istore (lv' := [(4, .int 0), (6, .int r_35), (5, .int mz11), (3, .int egz1), (0, .ref aBe), (1, .ref aTr), (2, .int mi)]) hx₀ hb dX0_plan_86 hl (by decide) rfl (fun ls hl => ?_)
                  refine lv_iload hx₀ hb dX0_plan_88 (lv_at hl 0 rfl) ?_
                  refine lv_if_eq (tgt := 105) hx₀ hb dX0_plan_90 (by decide) (fun _ => ?_) (fun c9 => absurd (by decide +kernel) c9)
                  refine lv_aload_n hx₀ hb dX0_plan_105 rfl (lv_at hl 4 rfl) ?_
                  refine lv_iload hx₀ hb dX0_plan_106 (lv_at hl 1 rfl) ?_
                  refine lv_iload_n hx₀ hb dX0_plan_108 rfl (lv_at hl 3 rfl) ?_
                  refine lv_iload hx₀ hb dX0_plan_109 (lv_at hl 2 rfl) ?_
                  refine lv_iconst (v := 1) hx₀ hb dX0_plan_111 (by decide +kernel) ?_
                  obtain ⟨hPc, hDc, hFc, hC⟩ := k_cw (wc := [(kX0 aBe y0z11 y1z11 y2z11 y3z11)]) hP hD hS hA [0] (by decide +kernel) rfl
                  refine va_callv (va_runV (As := [.int r_35, .int egz1, .int mz11, .int 1]) (rest := []) ⟨hx₀, hb, hml, hown, hts⟩ (j_note l dC dI cI cJ cQ H.size aBe r_35 egz1 mz11 1 y0z11 y1z11 y2z11 y3z11) (cwV 4 hts (kGV wd_633 wd_630 wd_631 wd_632 wd_34) rfl rfl rfl (by decide +kernel) ⟨Nat.le_of_ble_eq_true rfl, Nat.le_of_ble_eq_true rfl⟩) (k_preV0 (q0 := 0) hK hPc hDc hN rfl) rfl rfl hl.1 rfl (lv_room (Nat.le_of_ble_eq_true rfl)) dX0_plan_112 ⟨by decide +kernel, by decide +kernel⟩) hS (fun q _ h => hFc q h) hFc (fun u₀ t₀ H1 locs ht hvm hw hB hz1 hk1 hS => ?_)
                  obtain ⟨g_43, ga_44, gl_45, gb_46, gp_47⟩ := u₀
                  obtain ⟨hP1, hK1, hD1⟩ := hB
                  rw [ht] at hP1
                  have hJ := k_jn (wr := [(kX10 aTr aLa aPa aGe gL gR lf rt tgo tca tki tso tbe twe tle (g_36 0) (g_36 1) (g_36 2)), (kX4 aLa vLa l4 a4 n4), (kAI vLa cI 24 f4)]) (wt := [(kX10 aTr aLa aPa aGe gL gR lf rt tgo tca tki tso tbe twe tle (g_36 0) (g_36 1) (g_36 2)), (kX4 aLa vLa l4 a4 n4), (kAI vLa cI 24 f4), (kX0 aBe (g_43 0) (g_43 1) (g_43 2) (g_43 3))]) hP hD hC [1, 2, 3] rfl (by decide +kernel) (by decide +kernel) hk1 hFc hP1 hD1 rfl
                  clear hP hD hPc hDc hFc hC hP1 hD1 hK1 hz1 hk1 hvm ht
                  obtain ⟨hP, hD⟩ := hJ
                  generalize H1 = H at hP hS ⊢
                  refine lv_iinc (v := mz11 + 1) (lv' := [(5, .int (mz11 + 1)), (4, .int 0), (6, .int r_35), (3, .int egz1), (0, .ref aBe), (1, .ref aTr), (2, .int mi)]) hx₀ hb dX0_plan_115 hl (k := 2) rfl rfl (by decide) rfl (fun ls hl => ?_)
                  refine lv_goto (tgt := 34) hx₀ hb dX0_plan_118 (by decide) ?_
                  exact ihz11 _ (lf_j_plan_6 mz11 jz11 mi r_35 hiz11_0 hjz11 c_12 c_15 c_41) (0 : Int32) (mz11 + 1) (g_43 0) (g_43 1) (g_43 2) (g_43 3) (g_36 0) (g_36 1) (g_36 2) _ _ _ (lf_j_plan_5 mz11 jz11 mi r_35 hiz11_0 hjz11 c_12 c_15 c_41) rfl (hP.sub [3, 1, 2, 0] rfl) (hD.sub [3, 1, 2, 0] (by decide +kernel) rfl) hS (lv_sub hl [0, 1, 3, 4, 5, 6] rfl)
                · refine lv_iconst (v := 1) hx₀ hb dX0_plan_81 (by decide +kernel) ?_
                  refine lv_goto (tgt := 86) hx₀ hb dX0_plan_82 (by decide) ?_
                  refine lv_istore (lv' := [(4, .int 1), (6, .int r_35), (5, .int mz11), (3, .int egz1), (0, .ref aBe), (1, .ref aTr), (2, .int mi)]) hx₀ hb dX0_plan_86 hl (by decide) rfl (fun ls hl => ?_)
                  refine lv_iload hx₀ hb dX0_plan_88 (lv_at hl 0 rfl) ?_
                  refine lv_if_eq (tgt := 105) hx₀ hb dX0_plan_90 (by decide) (fun c9 => absurd c9 (by decide +kernel)) (fun _ => ?_)
                  refine lv_aload_n hx₀ hb dX0_plan_93 rfl (lv_at hl 4 rfl) ?_
                  refine lv_aload_n hx₀ hb dX0_plan_94 rfl (lv_at hl 5 rfl) ?_
                  refine lv_iload_n hx₀ hb dX0_plan_95 rfl (lv_at hl 6 rfl) ?_
                  refine lv_iload_n hx₀ hb dX0_plan_96 rfl (lv_at hl 3 rfl) ?_
                  refine lv_iload hx₀ hb dX0_plan_97 (lv_at hl 2 rfl) ?_
                  obtain ⟨hPc, hDc, hFc, hC⟩ := k_cw (wc := [(kX0 aBe y0z11 y1z11 y2z11 y3z11), (kX10 aTr aLa aPa aGe gL gR lf rt tgo tca tki tso tbe twe tle (g_36 0) (g_36 1) (g_36 2)), (kX4 aLa vLa l4 a4 n4), (kAI vLa cI 24 f4)]) hP hD hS hA [0, 1, 2, 3] (by decide +kernel) rfl
                  refine va_callv (va_runV (As := [.ref aTr, .int mi, .int egz1, .int mz11]) (rest := []) ⟨hx₀, hb, hml, hown, hts⟩ (j_trySecond l dC dI cI cJ cQ H.size aBe aTr mi egz1 mz11 y0z11 y1z11 y2z11 y3z11 aLa aPa aGe gL gR lf rt tgo tca tki tso tbe twe tle (g_36 0) (g_36 1) (g_36 2) vLa l4 a4 n4 f4) (cwV 4 hts (kGV wd_627 wd_624 wd_625 wd_626 wd_34) rfl rfl rfl (by decide +kernel) ⟨Nat.le_of_ble_eq_true rfl, Nat.le_of_ble_eq_true rfl⟩) (k_preV0 (q0 := 0) hK hPc hDc hN rfl) rfl rfl hl.1 rfl (lv_room (Nat.le_of_ble_eq_true rfl)) dX0_plan_99 ⟨by decide +kernel, by decide +kernel⟩) hS (fun q _ h => hFc q h) hFc (fun u₀ t₀ H1 locs ht hvm hw hB hz1 hk1 hS => ?_)
                  obtain ⟨g_49, ga_50, gl_51, gb_52, gp_53⟩ := u₀
                  obtain ⟨hP1, hK1, hD1⟩ := hB
                  rw [ht] at hP1
                  have hJ := k_jn (wr := []) (wt := [(kX0 aBe (g_49 0) (g_49 1) (g_49 2) (g_49 3)), (kX10 aTr aLa aPa aGe gL gR lf rt tgo tca tki tso tbe twe tle (g_49 4) (g_49 5) (g_49 6)), (kX4 aLa vLa l4 a4 n4), (kAI vLa cI 24 f4)]) hP hD hC [] rfl (by decide +kernel) (by decide +kernel) hk1 hFc hP1 hD1 rfl
                  clear hP hD hPc hDc hFc hC hP1 hD1 hK1 hz1 hk1 hvm ht
                  obtain ⟨hP, hD⟩ := hJ
                  generalize H1 = H at hP hS ⊢
                  refine lv_goto (tgt := 115) hx₀ hb dX0_plan_102 (by decide) ?_
                  refine lv_iinc (v := mz11 + 1) (lv' := [(5, .int (mz11 + 1)), (4, .int 1), (6, .int r_35), (3, .int egz1), (0, .ref aBe), (1, .ref aTr), (2, .int mi)]) hx₀ hb dX0_plan_115 hl (k := 2) rfl rfl (by decide) rfl (fun ls hl => ?_)
                  refine lv_goto (tgt := 34) hx₀ hb dX0_plan_118 (by decide) ?_
                  exact ihz11 _ (lf_j_plan_8 mz11 jz11 mi r_35 hiz11_0 hjz11 c_12 c_15 c_41) (1 : Int32) (mz11 + 1) (g_49 0) (g_49 1) (g_49 2) (g_49 3) (g_49 4) (g_49 5) (g_49 6) _ _ _ (lf_j_plan_7 mz11 jz11 mi r_35 hiz11_0 hjz11 c_12 c_15 c_41) rfl (hP.sub [0, 2, 3, 1] rfl) (hD.sub [0, 2, 3, 1] (by decide +kernel) rfl) hS (lv_sub hl [0, 1, 3, 4, 5, 6] rfl)
