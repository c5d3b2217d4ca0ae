theorem lf_e_flyGeese_1 (a0 : Int32) (h0 : -1 ≤ a0 ∧ a0.toInt < 2147483647) : 0 ≤ (0 : Int32) ∧ (0 : Int32).toInt ≤ a0.toInt + 1 := by
  first | rfl | assumption | decide | exact Or.inl rfl | (first | omega | (have hr0 := Int32.toInt_lt a0; have hs0 := Int32.le_toInt a0; simp only [Int64.toInt_add, Int64.toInt_sub, Int32.toInt_add, Int32.toInt_sub, Int32.toInt_mul, Int64.le_iff_toInt_le, Int64.lt_iff_toInt_lt, Int32.le_iff_toInt_le, Int32.lt_iff_toInt_lt, ← Int32.toInt_inj, ← Int64.toInt_inj, Int32.toInt_toInt64, kc_m1, kc_0, kc_1, kc_2147483647] at *; (first | omega | ((try simp (disch := omega) only [k_bm64] at *); (try simp (disch := omega) only [k_bm] at *); (try simp (disch := omega) only [k_bm] at *); omega) | (simp only [Int.bmod] at *; omega))))
theorem lf_e_flyGeese_2 (a0 : Int32) (a1 : Int32) (a2 : Nat) (h0 : -1 ≤ a0 ∧ a0.toInt < 2147483647) (h1 : 0 ≤ a1 ∧ a1.toInt ≤ a0.toInt + 1) (h2 : (a0.toInt + 1 - a1.toInt).toNat = a2) (h3 : a0 < a1) : (a0 + 1) ≤ a1 := by
  first | rfl | assumption | decide | exact Or.inl rfl | (first | omega | (have hr0 := Int32.toInt_lt a0; have hs0 := Int32.le_toInt a0; have hr1 := Int32.toInt_lt a1; have hs1 := Int32.le_toInt a1; simp only [Int64.toInt_add, Int64.toInt_sub, Int32.toInt_add, Int32.toInt_sub, Int32.toInt_mul, Int64.le_iff_toInt_le, Int64.lt_iff_toInt_lt, Int32.le_iff_toInt_le, Int32.lt_iff_toInt_lt, ← Int32.toInt_inj, ← Int64.toInt_inj, Int32.toInt_toInt64, kc_m1, kc_0, kc_1, kc_2147483647] at *; (first | omega | ((try simp (disch := omega) only [k_bm64] at *); (try simp (disch := omega) only [k_bm] at *); (try simp (disch := omega) only [k_bm] at *); omega) | (simp only [Int.bmod] at *; omega))))
theorem lf_e_flyGeese_3 (a0 : Int32) (a1 : Int32) (a2 : Nat) (h0 : -1 ≤ a0 ∧ a0.toInt < 2147483647) (h1 : 0 ≤ a1 ∧ a1.toInt ≤ a0.toInt + 1) (h2 : (a0.toInt + 1 - a1.toInt).toNat = a2) (h3 : a0 < a1) : a1 ≤ (a0 + 1) := by
  first | rfl | assumption | decide | exact Or.inl rfl | (first | omega | (have hr0 := Int32.toInt_lt a0; have hs0 := Int32.le_toInt a0; have hr1 := Int32.toInt_lt a1; have hs1 := Int32.le_toInt a1; simp only [Int64.toInt_add, Int64.toInt_sub, Int32.toInt_add, Int32.toInt_sub, Int32.toInt_mul, Int64.le_iff_toInt_le, Int64.lt_iff_toInt_lt, Int32.le_iff_toInt_le, Int32.lt_iff_toInt_lt, ← Int32.toInt_inj, ← Int64.toInt_inj, Int32.toInt_toInt64, kc_m1, kc_0, kc_1, kc_2147483647] at *; (first | omega | ((try simp (disch := omega) only [k_bm64] at *); (try simp (disch := omega) only [k_bm] at *); (try simp (disch := omega) only [k_bm] at *); omega) | (simp only [Int.bmod] at *; omega))))
theorem lf_e_flyGeese_4 (a0 : Int32) (a1 : Int32) (a2 : Nat) (h0 : -1 ≤ a0 ∧ a0.toInt < 2147483647) (h1 : 0 ≤ a1 ∧ a1.toInt ≤ a0.toInt + 1) (h2 : (a0.toInt + 1 - a1.toInt).toNat = a2) (h3 : ¬ a0 < a1) : ¬ (a0 + 1) ≤ a1 := by
  first | rfl | assumption | decide | exact Or.inl rfl | (first | omega | (have hr0 := Int32.toInt_lt a0; have hs0 := Int32.le_toInt a0; have hr1 := Int32.toInt_lt a1; have hs1 := Int32.le_toInt a1; simp only [Int64.toInt_add, Int64.toInt_sub, Int32.toInt_add, Int32.toInt_sub, Int32.toInt_mul, Int64.le_iff_toInt_le, Int64.lt_iff_toInt_lt, Int32.le_iff_toInt_le, Int32.lt_iff_toInt_lt, ← Int32.toInt_inj, ← Int64.toInt_inj, Int32.toInt_toInt64, kc_m1, kc_0, kc_1, kc_2147483647] at *; (first | omega | ((try simp (disch := omega) only [k_bm64] at *); (try simp (disch := omega) only [k_bm] at *); (try simp (disch := omega) only [k_bm] at *); omega) | (simp only [Int.bmod] at *; omega))))
theorem lf_e_flyGeese_5 (a0 : Int32) (a1 : Int32) (a2 : Nat) (h0 : -1 ≤ a0 ∧ a0.toInt < 2147483647) (h1 : 0 ≤ a1 ∧ a1.toInt ≤ a0.toInt + 1) (h2 : (a0.toInt + 1 - a1.toInt).toNat = a2) (h3 : ¬ a0 < a1) : 0 ≤ (a1 + 1) ∧ (a1 + 1).toInt ≤ a0.toInt + 1 := by
  first | rfl | assumption | decide | exact Or.inl rfl | (first | omega | (have hr0 := Int32.toInt_lt a0; have hs0 := Int32.le_toInt a0; have hr1 := Int32.toInt_lt a1; have hs1 := Int32.le_toInt a1; simp only [Int64.toInt_add, Int64.toInt_sub, Int32.toInt_add, Int32.toInt_sub, Int32.toInt_mul, Int64.le_iff_toInt_le, Int64.lt_iff_toInt_lt, Int32.le_iff_toInt_le, Int32.lt_iff_toInt_lt, ← Int32.toInt_inj, ← Int64.toInt_inj, Int32.toInt_toInt64, kc_m1, kc_0, kc_1, kc_2147483647] at *; (first | omega | ((try simp (disch := omega) only [k_bm64] at *); (try simp (disch := omega) only [k_bm] at *); (try simp (disch := omega) only [k_bm] at *); omega) | (simp only [Int.bmod] at *; omega))))
theorem lf_e_flyGeese_6 (a0 : Int32) (a1 : Int32) (a2 : Nat) (h0 : -1 ≤ a0 ∧ a0.toInt < 2147483647) (h1 : 0 ≤ a1 ∧ a1.toInt ≤ a0.toInt + 1) (h2 : (a0.toInt + 1 - a1.toInt).toNat = a2) (h3 : ¬ a0 < a1) : (a0.toInt + 1 - (a1 + 1).toInt).toNat < a2 := by
  first | rfl | assumption | decide | exact Or.inl rfl | (first | omega | (have hr0 := Int32.toInt_lt a0; have hs0 := Int32.le_toInt a0; have hr1 := Int32.toInt_lt a1; have hs1 := Int32.le_toInt a1; simp only [Int64.toInt_add, Int64.toInt_sub, Int32.toInt_add, Int32.toInt_sub, Int32.toInt_mul, Int64.le_iff_toInt_le, Int64.lt_iff_toInt_lt, Int32.le_iff_toInt_le, Int32.lt_iff_toInt_lt, ← Int32.toInt_inj, ← Int64.toInt_inj, Int32.toInt_toInt64, kc_m1, kc_0, kc_1, kc_2147483647] at *; (first | omega | ((try simp (disch := omega) only [k_bm64] at *); (try simp (disch := omega) only [k_bm] at *); (try simp (disch := omega) only [k_bm] at *); omega) | (simp only [Int.bmod] at *; omega))))
theorem lf_e_flyGeese_7 (a0 : Int32) (a1 : Int32) (a2 : Nat) (h0 : -1 ≤ a0 ∧ a0.toInt < 2147483647) (h1 : 0 ≤ a1 ∧ a1.toInt ≤ a0.toInt + 1) (h2 : (a0.toInt + 1 - a1.toInt).toNat = a2) (h3 : ¬ a0 < a1) (h4 : a1 < a0) : ¬ (a0 + 1) ≤ a1 := by
  first | rfl | assumption | decide | exact Or.inl rfl | (first | omega | (have hr0 := Int32.toInt_lt a0; have hs0 := Int32.le_toInt a0; have hr1 := Int32.toInt_lt a1; have hs1 := Int32.le_toInt a1; simp only [Int64.toInt_add, Int64.toInt_sub, Int32.toInt_add, Int32.toInt_sub, Int32.toInt_mul, Int64.le_iff_toInt_le, Int64.lt_iff_toInt_lt, Int32.le_iff_toInt_le, Int32.lt_iff_toInt_lt, ← Int32.toInt_inj, ← Int64.toInt_inj, Int32.toInt_toInt64, kc_m1, kc_0, kc_1, kc_2147483647] at *; (first | omega | ((try simp (disch := omega) only [k_bm64] at *); (try simp (disch := omega) only [k_bm] at *); (try simp (disch := omega) only [k_bm] at *); omega) | (simp only [Int.bmod] at *; omega))))
theorem lf_e_flyGeese_8 (a0 : Int32) (a1 : Int32) (a2 : Nat) (h0 : -1 ≤ a0 ∧ a0.toInt < 2147483647) (h1 : 0 ≤ a1 ∧ a1.toInt ≤ a0.toInt + 1) (h2 : (a0.toInt + 1 - a1.toInt).toNat = a2) (h3 : ¬ a0 < a1) (h4 : a1 < a0) : ¬ (a0 + 1) ≤ (a1 + 1) := by
  first | rfl | assumption | decide | exact Or.inl rfl | (first | omega | (have hr0 := Int32.toInt_lt a0; have hs0 := Int32.le_toInt a0; have hr1 := Int32.toInt_lt a1; have hs1 := Int32.le_toInt a1; simp only [Int64.toInt_add, Int64.toInt_sub, Int32.toInt_add, Int32.toInt_sub, Int32.toInt_mul, Int64.le_iff_toInt_le, Int64.lt_iff_toInt_lt, Int32.le_iff_toInt_le, Int32.lt_iff_toInt_lt, ← Int32.toInt_inj, ← Int64.toInt_inj, Int32.toInt_toInt64, kc_m1, kc_0, kc_1, kc_2147483647] at *; (first | omega | ((try simp (disch := omega) only [k_bm64] at *); (try simp (disch := omega) only [k_bm] at *); (try simp (disch := omega) only [k_bm] at *); omega) | (simp only [Int.bmod] at *; omega))))
theorem lf_e_flyGeese_9 (a0 : Int32) (a1 : Int32) (a2 : Nat) (h0 : -1 ≤ a0 ∧ a0.toInt < 2147483647) (h1 : 0 ≤ a1 ∧ a1.toInt ≤ a0.toInt + 1) (h2 : (a0.toInt + 1 - a1.toInt).toNat = a2) (h3 : ¬ a0 < a1) (h4 : a1 < a0) : 0 ≤ (a1 + 1) ∧ (a1 + 1).toInt ≤ a0.toInt + 1 := by
  first | rfl | assumption | decide | exact Or.inl rfl | (first | omega | (have hr0 := Int32.toInt_lt a0; have hs0 := Int32.le_toInt a0; have hr1 := Int32.toInt_lt a1; have hs1 := Int32.le_toInt a1; simp only [Int64.toInt_add, Int64.toInt_sub, Int32.toInt_add, Int32.toInt_sub, Int32.toInt_mul, Int64.le_iff_toInt_le, Int64.lt_iff_toInt_lt, Int32.le_iff_toInt_le, Int32.lt_iff_toInt_lt, ← Int32.toInt_inj, ← Int64.toInt_inj, Int32.toInt_toInt64, kc_m1, kc_0, kc_1, kc_2147483647] at *; (first | omega | ((try simp (disch := omega) only [k_bm64] at *); (try simp (disch := omega) only [k_bm] at *); (try simp (disch := omega) only [k_bm] at *); omega) | (simp only [Int.bmod] at *; omega))))
theorem lf_e_flyGeese_10 (a0 : Int32) (a1 : Int32) (a2 : Nat) (h0 : -1 ≤ a0 ∧ a0.toInt < 2147483647) (h1 : 0 ≤ a1 ∧ a1.toInt ≤ a0.toInt + 1) (h2 : (a0.toInt + 1 - a1.toInt).toNat = a2) (h3 : ¬ a0 < a1) (h4 : a1 < a0) : (a0.toInt + 1 - (a1 + 1).toInt).toNat < a2 := by
  first | rfl | assumption | decide | exact Or.inl rfl | (first | omega | (have hr0 := Int32.toInt_lt a0; have hs0 := Int32.le_toInt a0; have hr1 := Int32.toInt_lt a1; have hs1 := Int32.le_toInt a1; simp only [Int64.toInt_add, Int64.toInt_sub, Int32.toInt_add, Int32.toInt_sub, Int32.toInt_mul, Int64.le_iff_toInt_le, Int64.lt_iff_toInt_lt, Int32.le_iff_toInt_le, Int32.lt_iff_toInt_lt, ← Int32.toInt_inj, ← Int64.toInt_inj, Int32.toInt_toInt64, kc_m1, kc_0, kc_1, kc_2147483647] at *; (first | omega | ((try simp (disch := omega) only [k_bm64] at *); (try simp (disch := omega) only [k_bm] at *); (try simp (disch := omega) only [k_bm] at *); omega) | (simp only [Int.bmod] at *; omega))))
theorem lf_e_flyGeese_11 (a0 : Int32) (a1 : Int32) (a2 : Nat) (h0 : -1 ≤ a0 ∧ a0.toInt < 2147483647) (h1 : 0 ≤ a1 ∧ a1.toInt ≤ a0.toInt + 1) (h2 : (a0.toInt + 1 - a1.toInt).toNat = a2) (h3 : ¬ a0 < a1) (h4 : ¬ a1 < a0) : ¬ (a0 + 1) ≤ a1 := by
  first | rfl | assumption | decide | exact Or.inl rfl | (first | omega | (have hr0 := Int32.toInt_lt a0; have hs0 := Int32.le_toInt a0; have hr1 := Int32.toInt_lt a1; have hs1 := Int32.le_toInt a1; simp only [Int64.toInt_add, Int64.toInt_sub, Int32.toInt_add, Int32.toInt_sub, Int32.toInt_mul, Int64.le_iff_toInt_le, Int64.lt_iff_toInt_lt, Int32.le_iff_toInt_le, Int32.lt_iff_toInt_lt, ← Int32.toInt_inj, ← Int64.toInt_inj, Int32.toInt_toInt64, kc_m1, kc_0, kc_1, kc_2147483647] at *; (first | omega | ((try simp (disch := omega) only [k_bm64] at *); (try simp (disch := omega) only [k_bm] at *); (try simp (disch := omega) only [k_bm] at *); omega) | (simp only [Int.bmod] at *; omega))))
theorem lf_e_flyGeese_12 (a0 : Int32) (a1 : Int32) (a2 : Nat) (h0 : -1 ≤ a0 ∧ a0.toInt < 2147483647) (h1 : 0 ≤ a1 ∧ a1.toInt ≤ a0.toInt + 1) (h2 : (a0.toInt + 1 - a1.toInt).toNat = a2) (h3 : ¬ a0 < a1) (h4 : ¬ a1 < a0) : (a0 + 1) ≤ (a1 + 1) := by
  first | rfl | assumption | decide | exact Or.inl rfl | (first | omega | (have hr0 := Int32.toInt_lt a0; have hs0 := Int32.le_toInt a0; have hr1 := Int32.toInt_lt a1; have hs1 := Int32.le_toInt a1; simp only [Int64.toInt_add, Int64.toInt_sub, Int32.toInt_add, Int32.toInt_sub, Int32.toInt_mul, Int64.le_iff_toInt_le, Int64.lt_iff_toInt_lt, Int32.le_iff_toInt_le, Int32.lt_iff_toInt_lt, ← Int32.toInt_inj, ← Int64.toInt_inj, Int32.toInt_toInt64, kc_m1, kc_0, kc_1, kc_2147483647] at *; (first | omega | ((try simp (disch := omega) only [k_bm64] at *); (try simp (disch := omega) only [k_bm] at *); (try simp (disch := omega) only [k_bm] at *); omega) | (simp only [Int.bmod] at *; omega))))
theorem lf_e_flyGeese_13 (a0 : Int32) (a1 : Int32) (a2 : Nat) (h0 : -1 ≤ a0 ∧ a0.toInt < 2147483647) (h1 : 0 ≤ a1 ∧ a1.toInt ≤ a0.toInt + 1) (h2 : (a0.toInt + 1 - a1.toInt).toNat = a2) (h3 : ¬ a0 < a1) (h4 : ¬ a1 < a0) : 0 ≤ (a1 + 1) ∧ (a1 + 1).toInt ≤ a0.toInt + 1 := by
  first | rfl | assumption | decide | exact Or.inl rfl | (first | omega | (have hr0 := Int32.toInt_lt a0; have hs0 := Int32.le_toInt a0; have hr1 := Int32.toInt_lt a1; have hs1 := Int32.le_toInt a1; simp only [Int64.toInt_add, Int64.toInt_sub, Int32.toInt_add, Int32.toInt_sub, Int32.toInt_mul, Int64.le_iff_toInt_le, Int64.lt_iff_toInt_lt, Int32.le_iff_toInt_le, Int32.lt_iff_toInt_lt, ← Int32.toInt_inj, ← Int64.toInt_inj, Int32.toInt_toInt64, kc_m1, kc_0, kc_1, kc_2147483647] at *; (first | omega | ((try simp (disch := omega) only [k_bm64] at *); (try simp (disch := omega) only [k_bm] at *); (try simp (disch := omega) only [k_bm] at *); omega) | (simp only [Int.bmod] at *; omega))))
theorem lf_e_flyGeese_14 (a0 : Int32) (a1 : Int32) (a2 : Nat) (h0 : -1 ≤ a0 ∧ a0.toInt < 2147483647) (h1 : 0 ≤ a1 ∧ a1.toInt ≤ a0.toInt + 1) (h2 : (a0.toInt + 1 - a1.toInt).toNat = a2) (h3 : ¬ a0 < a1) (h4 : ¬ a1 < a0) : (a0.toInt + 1 - (a1 + 1).toInt).toNat < a2 := by
  first | rfl | assumption | decide | exact Or.inl rfl | (first | omega | (have hr0 := Int32.toInt_lt a0; have hs0 := Int32.le_toInt a0; have hr1 := Int32.toInt_lt a1; have hs1 := Int32.le_toInt a1; simp only [Int64.toInt_add, Int64.toInt_sub, Int32.toInt_add, Int32.toInt_sub, Int32.toInt_mul, Int64.le_iff_toInt_le, Int64.lt_iff_toInt_lt, Int32.le_iff_toInt_le, Int32.lt_iff_toInt_lt, ← Int32.toInt_inj, ← Int64.toInt_inj, Int32.toInt_toInt64, kc_m1, kc_0, kc_1, kc_2147483647] at *; (first | omega | ((try simp (disch := omega) only [k_bm64] at *); (try simp (disch := omega) only [k_bm] at *); (try simp (disch := omega) only [k_bm] at *); omega) | (simp only [Int.bmod] at *; omega))))
set_option maxHeartbeats 4000000 in
set_option maxRecDepth 100000 in
theorem e_flyGeese (l : Launch) (dC : Nat → ClassId) (dI : Nat → Nat → Nat) (cI cJ cQ : ClassId) (sz : Nat) (aTr : Nat) (la1 : Int32) (ro : Int32) (aLa : Nat) (aPa : Nat) (aGe : Nat) (gL : Nat) (gR : Nat) (lf : Nat) (rt : Nat) (tgo : Int32) (tca : Int32) (tki : Int32) (tso : Int32) (tbe : Int32) (twe : Int32) (tle : Int32) (tan : Int32) (tco : Int32) (ten : Int32) (u0 : Int32) (u1 : Int32) (u2 : Int32) (u3 : Int32) (v0 : Int32) (v1 : Int32) (v2 : Int32) (v3 : Int32) (vLa : Nat) (l4 : Int32) (a4 : Int32) (n4 : Int32) (f4 : Nat → Int32) (hh0 : -1 ≤ la1 ∧ la1.toInt < 2147483647) : Met l yX10_flyGeese (kW yX10_flyGeese cX10_flyGeese 6 (some .int)) { frames := 1, cells := 0, slots := 0, locals := 21 } (kPre dC dI cI cJ cQ sz [.ref aTr, .int la1, .int ro] [(kX10 aTr aLa aPa aGe gL gR lf rt tgo tca tki tso tbe twe tle tan tco ten), (kX3 gL u0 u1 u2 u3), (kX3 gR v0 v1 v2 v3), (kX4 aLa vLa l4 a4 n4), (kAI vLa cI 24 f4)]) (va_Qi (fun (r : Int32) (u : kS) => (r = (kCt (kAt 24 f4) twe (kfu (la1 + 1) 0) 0 ((u0, u1, u0, 0), (v0, v1, v0, 0)))) ∧ (((u.2.2.2.2 0) = gL ∧ (u.2.2.2.2 1) = gR ∧ k_gp (u0, u1, (u.1 0), (u.1 1)) (v0, v1, (u.1 2), (u.1 3)) (kGz (kAt 24 f4) twe ro (kfu (la1 + 1) 0) 0 ((u0, u1, u0, 0), (v0, v1, v0, 0)))) ∨ ((u.2.2.2.2 0) = gR ∧ (u.2.2.2.2 1) = gL ∧ k_gp (v0, v1, (u.1 2), (u.1 3)) (u0, u1, (u.1 0), (u.1 1)) (kGz (kAt 24 f4) twe ro (kfu (la1 + 1) 0) 0 ((u0, u1, u0, 0), (v0, v1, v0, 0)))))) (fun (u : kS) t₀ => kB dC dI cI cJ cQ (va_A [(kX10 aTr aLa aPa aGe gL gR lf rt tgo tca tki tso tbe twe tle tan tco ten), (kX3 gL u0 u1 u2 u3), (kX3 gR v0 v1 v2 v3), (kX4 aLa vLa l4 a4 n4), (kAI vLa cI 24 f4)] sz) [(kX10 aTr aLa aPa aGe gL gR (u.2.2.2.2 0) (u.2.2.2.2 1) tgo tca tki tso tbe twe tle tan tco ten), (kX3 gL u0 u1 (u.1 0) (u.1 1)), (kX3 gR v0 v1 (u.1 2) (u.1 3)), (kX4 aLa vLa l4 a4 n4), (kAI vLa cI 24 f4)] t₀) (va_A [(kX10 aTr aLa aPa aGe gL gR lf rt tgo tca tki tso tbe twe tle tan tco ten), (kX3 gL u0 u1 u2 u3), (kX3 gR v0 v1 v2 v3), (kX4 aLa vLa l4 a4 n4), (kAI vLa cI 24 f4)] sz)) 0 0 (va_A [(kX10 aTr aLa aPa aGe gL gR lf rt tgo tca tki tso tbe twe tle tan tco ten), (kX3 gL u0 u1 u2 u3), (kX3 gR v0 v1 v2 v3), (kX4 aLa vLa l4 a4 n4), (kAI vLa cI 24 f4)] sz) := by
  refine Met.ofW (cc := cX10_flyGeese) (maxL := 6) (ret := (some .int)) (by decide) rfl ?_
  intro p₀ e₀ s₀ m₀ args below meth c₀ s₁ B hml hv₀
  obtain ⟨rfl, hsz, hP, hK, hD0, hN⟩ := hv₀
  have hx₀ := B.exec
  have hb := B.bytes
  have hr := B.returns
  have hts := atoms_spec (ws := (kW yX10_flyGeese cX10_flyGeese 6 (some .int))) B.pre
  have hts := fun w h => hts w (List.mem_cons_of_mem _ h)
  have hown : s₀.vm.findClass RX10 = some m₀.cls := findClass_of_methodNamed B.named
  have hlocks := B.notSynchronized
  subst hsz
  have hD := hD0.self (sz := s₀.heap.size)
  generalize hAe : va_A [(kX10 aTr aLa aPa aGe gL gR lf rt tgo tca tki tso tbe twe tle tan tco ten), (kX3 gL u0 u1 u2 u3), (kX3 gR v0 v1 v2 v3), (kX4 aLa vLa l4 a4 n4), (kAI vLa cI 24 f4)] s₀.heap.size = A at hD ⊢
  have hA : ∀ q : Nat, s₀.heap.size ≤ q → A q := fun q h => by rw [← hAe]; exact Or.inr h
  have hS : va_S A s₀.heap s₀.heap [] := va_S.rf
  have hP : va_P (dC, dI) vwCl [(kX10 aTr aLa aPa aGe gL gR lf rt tgo tca tki tso tbe twe tle tan tco ten), (kX3 gL u0 u1 u2 u3), (kX3 gR v0 v1 v2 v3), (kX4 aLa vLa l4 a4 n4), (kAI vLa cI 24 f4)] s₀.heap := hP
  have hl := lv_entry ([.ref aTr, .int la1, .int ro]) (n := 6) (Nat.le_of_ble_eq_true rfl)
  rw [lg_entry_eq]
  generalize (lg_sl ([.ref aTr, .int la1, .int ro]) ++ List.replicate (6 - (lg_sl ([.ref aTr, .int la1, .int ro])).length) Slot.unset).toArray = ls at hl ⊢
  have hl : lv_has ls 6 [(0, .ref aTr), (1, .int la1), (2, .int ro)] := hl
  obtain ⟨H, hH⟩ : ∃ z : Heap, z = s₀.heap := ⟨_, rfl⟩
  rw [← hH] at hP
  have hS : va_S A s₀.heap H [] := by rw [hH]; exact hS
  refine k_heap hH ?_
  have hD : va_D A [(kX10 aTr aLa aPa aGe gL gR lf rt tgo tca tki tso tbe twe tle tan tco ten), (kX3 gL u0 u1 u2 u3), (kX3 gR v0 v1 v2 v3), (kX4 aLa vLa l4 a4 n4), (kAI vLa cI 24 f4)] := hD
  obtain ⟨locs, hlo⟩ : ∃ z : List Loc, z = [] := ⟨_, rfl⟩
  rw [← hlo] at hS ⊢
  clear hlo hH hAe hD0
  refine lv_aload_n hx₀ hb dX10_flyGeese_0 rfl (lv_at hl 0 rfl) ?_
  refine lv_aload_n hx₀ hb dX10_flyGeese_1 rfl (lv_at hl 0 rfl) ?_
  refine va_get (D := (dC, dI)) (ci := 9) (v := .ref gL) (C := RX10) (T := TX10) (N := 17) hx₀ hb hts inlX10 hown hK hP 0 rfl rfl 3 (by decide) (hts (.fieldLink RX10 12 "BittenStick$Trip" "toldLeft" "LBittenStick$Goose;") wd_85) (fun _ h9 => h9) rfl dX10_flyGeese_2 ?_
  refine va_put (D := (dC, dI)) (ci := 9) (v := .ref gL) (ty := .object "BittenStick$Goose") (C := RX10) (T := TX10) (N := 17) hx₀ hb hts inlX10 tyX10 tyX10_ok nmX10 hown hK hP hD hS 0 rfl rfl 5 (by decide) (hts (.fieldLink RX10 21 "BittenStick$Trip" "left" "LBittenStick$Goose;") wd_87) (fun _ h9 => h9) rfl (by decide +kernel) rfl rfl (Nat.le_of_ble_eq_true rfl) dX10_flyGeese_5 ?_
  clear hP hD hS
  intro H locs hP hD hS
  replace hP := k_w2 (wt := [(kX10 aTr aLa aPa aGe gL gR gL rt tgo tca tki tso tbe twe tle tan tco ten), (kX3 gL u0 u1 u2 u3), (kX3 gR v0 v1 v2 v3), (kX4 aLa vLa l4 a4 n4), (kAI vLa cI 24 f4)]) hP hD rfl
  replace hD := hP.2
  replace hP := hP.1
  refine lv_aload_n hx₀ hb dX10_flyGeese_8 rfl (lv_at hl 0 rfl) ?_
  refine lv_aload_n hx₀ hb dX10_flyGeese_9 rfl (lv_at hl 0 rfl) ?_
  refine va_get (D := (dC, dI)) (ci := 9) (v := .ref gR) (C := RX10) (T := TX10) (N := 17) hx₀ hb hts inlX10 hown hK hP 0 rfl rfl 4 (by decide) (hts (.fieldLink RX10 18 "BittenStick$Trip" "toldRight" "LBittenStick$Goose;") wd_86) (fun _ h9 => h9) rfl dX10_flyGeese_10 ?_
  refine va_put (D := (dC, dI)) (ci := 9) (v := .ref gR) (ty := .object "BittenStick$Goose") (C := RX10) (T := TX10) (N := 17) hx₀ hb hts inlX10 tyX10 tyX10_ok nmX10 hown hK hP hD hS 0 rfl rfl 6 (by decide) (hts (.fieldLink RX10 24 "BittenStick$Trip" "right" "LBittenStick$Goose;") wd_88) (fun _ h9 => h9) rfl (by decide +kernel) rfl rfl (Nat.le_of_ble_eq_true rfl) dX10_flyGeese_13 ?_
  clear hP hD hS
  intro H locs hP hD hS
  replace hP := k_w2 (wt := [(kX10 aTr aLa aPa aGe gL gR gL gR tgo tca tki tso tbe twe tle tan tco ten), (kX3 gL u0 u1 u2 u3), (kX3 gR v0 v1 v2 v3), (kX4 aLa vLa l4 a4 n4), (kAI vLa cI 24 f4)]) hP hD rfl
  replace hD := hP.2
  replace hP := hP.1
  refine lv_aload_n hx₀ hb dX10_flyGeese_16 rfl (lv_at hl 0 rfl) ?_
  refine va_get (D := (dC, dI)) (ci := 9) (v := .ref gL) (C := RX10) (T := TX10) (N := 17) hx₀ hb hts inlX10 hown hK hP 0 rfl rfl 5 (by decide) (hts (.fieldLink RX10 21 "BittenStick$Trip" "left" "LBittenStick$Goose;") wd_87) (fun _ h9 => h9) rfl dX10_flyGeese_17 ?_
  obtain ⟨hPc, hDc, hFc, hC⟩ := k_cw (wc := [(kX3 gL u0 u1 u2 u3)]) hP hD hS hA [1] (by decide +kernel) rfl
  refine va_callv (va_runV (As := []) (rest := []) ⟨hx₀, hb, hml, hown, hts⟩ (j_gSet l dC dI cI cJ cQ H.size gL u0 u1 u2 u3) (cwV 0 hts (kGV wd_474 wd_471 wd_472 wd_473 wd_84) rfl rfl rfl (by decide +kernel) ⟨Nat.le_of_ble_eq_true rfl, Nat.le_of_ble_eq_true rfl⟩) (k_preV3 (q0 := 0) hK hPc hDc hN rfl) rfl rfl hl.1 rfl (lv_room (Nat.le_of_ble_eq_true rfl)) dX10_flyGeese_20 ⟨by decide +kernel, by decide +kernel⟩) hS (fun q _ h => hFc q h) hFc (fun u₀ t₀ H1 locs ht hvm hw hB hz1 hk1 hS => ?_)
  obtain ⟨hP1, hK1, hD1⟩ := hB
  rw [ht] at hP1
  have hJ := k_jn (wr := [(kX10 aTr aLa aPa aGe gL gR gL gR tgo tca tki tso tbe twe tle tan tco ten), (kX3 gR v0 v1 v2 v3), (kX4 aLa vLa l4 a4 n4), (kAI vLa cI 24 f4)]) (wt := [(kX10 aTr aLa aPa aGe gL gR gL gR tgo tca tki tso tbe twe tle tan tco ten), (kX3 gR v0 v1 v2 v3), (kX4 aLa vLa l4 a4 n4), (kAI vLa cI 24 f4), (kX3 gL u0 u1 u0 0)]) hP hD hC [0, 2, 3, 4] rfl (by decide +kernel) (by decide +kernel) hk1 hFc hP1 hD1 rfl
  clear hP hD hPc hDc hFc hC hP1 hD1 hK1 hz1 hk1 hvm ht
  obtain ⟨hP, hD⟩ := hJ
  generalize H1 = H at hP hS ⊢
  refine lv_aload_n hx₀ hb dX10_flyGeese_23 rfl (lv_at hl 0 rfl) ?_
  refine va_get (D := (dC, dI)) (ci := 9) (v := .ref gR) (C := RX10) (T := TX10) (N := 17) hx₀ hb hts inlX10 hown hK hP 0 rfl rfl 6 (by decide) (hts (.fieldLink RX10 24 "BittenStick$Trip" "right" "LBittenStick$Goose;") wd_88) (fun _ h9 => h9) rfl dX10_flyGeese_24 ?_
  obtain ⟨hPc, hDc, hFc, hC⟩ := k_cw (wc := [(kX3 gR v0 v1 v2 v3)]) hP hD hS hA [1] (by decide +kernel) rfl
  refine va_callv (va_runV (As := []) (rest := []) ⟨hx₀, hb, hml, hown, hts⟩ (j_gSet l dC dI cI cJ cQ H.size gR v0 v1 v2 v3) (cwV 0 hts (kGV wd_474 wd_471 wd_472 wd_473 wd_84) rfl rfl rfl (by decide +kernel) ⟨Nat.le_of_ble_eq_true rfl, Nat.le_of_ble_eq_true rfl⟩) (k_preV3 (q0 := 0) hK hPc hDc hN rfl) rfl rfl hl.1 rfl (lv_room (Nat.le_of_ble_eq_true rfl)) dX10_flyGeese_27 ⟨by decide +kernel, by decide +kernel⟩) hS (fun q _ h => hFc q h) hFc (fun u₀ t₀ H1 locs ht hvm hw hB hz1 hk1 hS => ?_)
  obtain ⟨hP1, hK1, hD1⟩ := hB
  rw [ht] at hP1
  have hJ := k_jn (wr := [(kX10 aTr aLa aPa aGe gL gR gL gR tgo tca tki tso tbe twe tle tan tco ten), (kX4 aLa vLa l4 a4 n4), (kAI vLa cI 24 f4), (kX3 gL u0 u1 u0 0)]) (wt := [(kX10 aTr aLa aPa aGe gL gR gL gR tgo tca tki tso tbe twe tle tan tco ten), (kX4 aLa vLa l4 a4 n4), (kAI vLa cI 24 f4), (kX3 gL u0 u1 u0 0), (kX3 gR v0 v1 v0 0)]) hP hD hC [0, 2, 3, 4] rfl (by decide +kernel) (by decide +kernel) hk1 hFc hP1 hD1 rfl
  clear hP hD hPc hDc hFc hC hP1 hD1 hK1 hz1 hk1 hvm ht
  obtain ⟨hP, hD⟩ := hJ
  generalize H1 = H at hP hS ⊢
  refine lv_iconst (v := 0) hx₀ hb dX10_flyGeese_30 (by decide +kernel) ?_
  refine lv_istore_n (lv' := [(3, .int 0), (0, .ref aTr), (1, .int la1), (2, .int ro)]) hx₀ hb dX10_flyGeese_31 rfl hl (by decide) rfl (fun ls hl => ?_)
  refine (?keyz3 : ∀ (jz3 : Nat) (iz3 : Int32) (pz3 : Nat) (qz3 : Nat) (w2z3 : Int32) (w3z3 : Int32) (z2z3 : Int32) (z3z3 : Int32) (H : Heap) (locs : List Loc) (ls : Array Slot), ((gL = pz3 ∧ gR = qz3 ∧ k_ct (kAt 24 f4) twe (la1 + 1) iz3 (u0, u1, w2z3, w3z3) (v0, v1, z2z3, z3z3) (kCt (kAt 24 f4) twe (kfu (la1 + 1) 0) 0 ((u0, u1, u0, 0), (v0, v1, v0, 0))) ∧ k_gs (kAt 24 f4) twe ro (la1 + 1) iz3 (u0, u1, w2z3, w3z3) (v0, v1, z2z3, z3z3) (kGz (kAt 24 f4) twe ro (kfu (la1 + 1) 0) 0 ((u0, u1, u0, 0), (v0, v1, v0, 0)))) ∨ (gR = pz3 ∧ gL = qz3 ∧ k_ct (kAt 24 f4) twe (la1 + 1) iz3 (v0, v1, z2z3, z3z3) (u0, u1, w2z3, w3z3) (kCt (kAt 24 f4) twe (kfu (la1 + 1) 0) 0 ((u0, u1, u0, 0), (v0, v1, v0, 0))) ∧ k_gs (kAt 24 f4) twe ro (la1 + 1) iz3 (v0, v1, z2z3, z3z3) (u0, u1, w2z3, w3z3) (kGz (kAt 24 f4) twe ro (kfu (la1 + 1) 0) 0 ((u0, u1, u0, 0), (v0, v1, v0, 0))))) → (0 ≤ iz3 ∧ iz3.toInt ≤ la1.toInt + 1) → ((la1.toInt + 1 - iz3.toInt).toNat = jz3) → va_P (dC, dI) vwCl [(kX10 aTr aLa aPa aGe gL gR pz3 qz3 tgo tca tki tso tbe twe tle tan tco ten), (kX4 aLa vLa l4 a4 n4), (kAI vLa cI 24 f4), (kX3 gL u0 u1 w2z3 w3z3), (kX3 gR v0 v1 z2z3 z3z3)] H → va_D A [(kX10 aTr aLa aPa aGe gL gR pz3 qz3 tgo tca tki tso tbe twe tle tan tco ten), (kX4 aLa vLa l4 a4 n4), (kAI vLa cI 24 f4), (kX3 gL u0 u1 w2z3 w3z3), (kX3 gR v0 v1 z2z3 z3z3)] → va_S A s₀.heap H locs → lv_has ls 6 [(3, .int iz3), (0, .ref aTr), (1, .int la1), (2, .int ro)] → W p₀ l e₀ _ s₀ m₀ _ below meth c₀ H locs _ _ _ (F0 m₀ 32 ls [])) _ (0 : Int32) gL gR u0 (0 : Int32) v0 (0 : Int32) H locs ls (Or.inl ⟨rfl, rfl, rfl, rfl⟩) (lf_e_flyGeese_1 la1 hh0) rfl hP hD hS hl
  clear hP hD hS hl
  intro jz3
  induction jz3 using Nat.strongRecOn with
  | ind jz3 ihz3 =>
    intro iz3 pz3 qz3 w2z3 w3z3 z2z3 z3z3 H locs ls hiz3_0 hiz3_1 hjz3 hP hD hS hl
    rcases hiz3_0 with ⟨rfl, rfl, hkz3⟩ | ⟨rfl, rfl, hkz3⟩
    · refine lv_iload_n hx₀ hb dX10_flyGeese_32 rfl (lv_at hl 0 rfl) ?_
      refine lv_iload_n hx₀ hb dX10_flyGeese_33 rfl (lv_at hl 2 rfl) ?_
      refine lv_icmp_gt (tgt := 160) hx₀ hb dX10_flyGeese_34 (by decide) (fun c_4 => ?_) (fun c_4 => ?_)
      · refine lv_iload_n hx₀ hb dX10_flyGeese_160 rfl (lv_at hl 2 rfl) ?_
        refine lv_iconst (v := 1) hx₀ hb dX10_flyGeese_161 (by decide +kernel) ?_
        refine lv_iadd hx₀ hb dX10_flyGeese_162 ?_
        obtain ⟨hP9, hD9⟩ := k_c2 (wc := [(kX10 aTr aLa aPa aGe gL gR gL gR tgo tca tki tso tbe twe tle tan tco ten), (kX3 gL u0 u1 w2z3 w3z3), (kX3 gR v0 v1 z2z3 z3z3), (kX4 aLa vLa l4 a4 n4), (kAI vLa cI 24 f4)]) hP hD [0, 3, 4, 1, 2] (by decide +kernel) rfl
        exact W.iret (v := la1 + 1) hx₀ hb hr (fun t₀ ht hW => ⟨⟨la1 + 1, (k_fn [w2z3, w3z3, z2z3, z3z3], k_fa [], k_fl [], k_fL [], k_fp [gL, gR]), rfl, ⟨(kCt_end hkz3.1 (lf_e_flyGeese_2 la1 iz3 jz3 hh0 hiz3_1 hjz3 c_4) (lf_e_flyGeese_3 la1 iz3 jz3 hh0 hiz3_1 hjz3 c_4)), (Or.inl ⟨rfl, rfl, kGz_end hkz3.2 (lf_e_flyGeese_2 la1 iz3 jz3 hh0 hiz3_1 hjz3 c_4)⟩)⟩, by rw [ht]; exact hP9, va_K.moved hW.alike hK, hD9⟩, hS.F ht⟩) hS.2.2 dX10_flyGeese_163
      · refine lv_aload_n hx₀ hb dX10_flyGeese_37 rfl (lv_at hl 1 rfl) ?_
        refine va_get (D := (dC, dI)) (ci := 9) (v := .ref aLa) (C := RX10) (T := TX10) (N := 17) hx₀ hb hts inlX10 hown hK hP 0 rfl rfl 0 (by decide) (hts (.fieldLink RX10 27 "BittenStick$Trip" "land" "LBittenStick$Land;") wd_89) (fun _ h9 => h9) rfl dX10_flyGeese_38 ?_
        refine lv_iload_n hx₀ hb dX10_flyGeese_41 rfl (lv_at hl 0 rfl) ?_
        obtain ⟨hPc, hDc, hFc, hC⟩ := k_cw (wc := [(kX4 aLa vLa l4 a4 n4), (kAI vLa cI 24 f4)]) hP hD hS hA [1, 2] (by decide +kernel) rfl
        refine va_calli (va_runU (As := [.int iz3]) (rest := []) ⟨hx₀, hb, hml, hown, hts⟩ (j_valueAt_X4 l dC dI cI cJ cQ H.size aLa iz3 vLa l4 a4 n4 f4) (va_cwU 1 hts (kGU wd_179 wd_478 wd_288 wd_289 wd_178 wd_57) rfl rfl rfl rfl (by decide +kernel) ⟨Nat.le_of_ble_eq_true rfl, Nat.le_of_ble_eq_true rfl⟩) (k_preV4 (q0 := 0) hK hPc hDc hN rfl) rfl rfl hl.1 rfl (lv_room (Nat.le_of_ble_eq_true rfl)) dX10_flyGeese_42 ⟨by decide +kernel, by decide +kernel⟩) hS (fun q _ h => hFc q h) hFc (fun r_5 u₀ t₀ H1 locs ht hvm hw hB hz1 hk1 hS => ?_)
        obtain ⟨hP1, hK1, hD1⟩ := hB
        rw [ht] at hP1
        have hJ := k_jn (wr := [(kX10 aTr aLa aPa aGe gL gR gL gR tgo tca tki tso tbe twe tle tan tco ten), (kX3 gL u0 u1 w2z3 w3z3), (kX3 gR v0 v1 z2z3 z3z3)]) (wt := [(kX10 aTr aLa aPa aGe gL gR gL gR tgo tca tki tso tbe twe tle tan tco ten), (kX3 gL u0 u1 w2z3 w3z3), (kX3 gR v0 v1 z2z3 z3z3), (kX4 aLa vLa l4 a4 n4), (kAI vLa cI 24 f4)]) hP hD hC [0, 3, 4] rfl (by decide +kernel) (by decide +kernel) hk1 hFc hP1 hD1 rfl
        clear hP hD hPc hDc hFc hC hP1 hD1 hK1 hz1 hk1 hvm ht
        obtain ⟨hP, hD⟩ := hJ
        generalize H1 = H at hP hS ⊢
        try dsimp only at hw
        refine k_topi (v := kAt 24 f4 iz3) hw ?_
        refine lv_istore (lv' := [(4, .int (kAt 24 f4 iz3)), (3, .int iz3), (0, .ref aTr), (1, .int la1), (2, .int ro)]) hx₀ hb dX10_flyGeese_45 hl (by decide) rfl (fun ls hl => ?_)
        refine lv_iload hx₀ hb dX10_flyGeese_47 (lv_at hl 0 rfl) ?_
        refine lv_bipush (v := 8) hx₀ hb dX10_flyGeese_49 (by decide +kernel) ?_
        refine lv_icmp_ne (tgt := 74) hx₀ hb dX10_flyGeese_51 (by decide) (fun c_6 => ?_) (fun c_6 => ?_)
        · refine lv_aload_n hx₀ hb dX10_flyGeese_74 rfl (lv_at hl 2 rfl) ?_
          refine va_get (D := (dC, dI)) (ci := 9) (v := .ref gL) (C := RX10) (T := TX10) (N := 17) hx₀ hb hts inlX10 hown hK hP 0 rfl rfl 5 (by decide) (hts (.fieldLink RX10 21 "BittenStick$Trip" "left" "LBittenStick$Goose;") wd_87) (fun _ h9 => h9) rfl dX10_flyGeese_75 ?_
          obtain ⟨hPc, hDc, hFc, hC⟩ := k_cw (wc := [(kX3 gL u0 u1 w2z3 w3z3)]) hP hD hS hA [1] (by decide +kernel) rfl
          refine va_callv (va_runV (As := []) (rest := []) ⟨hx₀, hb, hml, hown, hts⟩ (j_gFly l dC dI cI cJ cQ H.size gL u0 u1 w2z3 w3z3) (cwV 0 hts (kGV wd_482 wd_479 wd_480 wd_481 wd_84) rfl rfl rfl (by decide +kernel) ⟨Nat.le_of_ble_eq_true rfl, Nat.le_of_ble_eq_true rfl⟩) (k_preV3 (q0 := 0) hK hPc hDc hN rfl) rfl rfl hl.1 rfl (lv_room (Nat.le_of_ble_eq_true rfl)) dX10_flyGeese_78 ⟨by decide +kernel, by decide +kernel⟩) hS (fun q _ h => hFc q h) hFc (fun u₀ t₀ H1 locs ht hvm hw hB hz1 hk1 hS => ?_)
          obtain ⟨g_8, ga_9, gl_10, gb_11, gp_12⟩ := u₀
          obtain ⟨hP1, hK1, hD1⟩ := hB
          rw [ht] at hP1
          have hJ := k_jn (wr := [(kX10 aTr aLa aPa aGe gL gR gL gR tgo tca tki tso tbe twe tle tan tco ten), (kX3 gR v0 v1 z2z3 z3z3), (kX4 aLa vLa l4 a4 n4), (kAI vLa cI 24 f4)]) (wt := [(kX10 aTr aLa aPa aGe gL gR gL gR tgo tca tki tso tbe twe tle tan tco ten), (kX3 gR v0 v1 z2z3 z3z3), (kX4 aLa vLa l4 a4 n4), (kAI vLa cI 24 f4), (kX3 gL u0 u1 (g_8 0) (g_8 1))]) hP hD hC [0, 2, 3, 4] rfl (by decide +kernel) (by decide +kernel) hk1 hFc hP1 hD1 rfl
          clear hP hD hPc hDc hFc hC hP1 hD1 hK1 hz1 hk1 hvm ht
          obtain ⟨hP, hD⟩ := hJ
          generalize H1 = H at hP hS ⊢
          try dsimp only at hw
          obtain ⟨c_13, c_14⟩ := hw
          refine lv_aload_n hx₀ hb dX10_flyGeese_81 rfl (lv_at hl 2 rfl) ?_
          refine va_get (D := (dC, dI)) (ci := 9) (v := .ref gR) (C := RX10) (T := TX10) (N := 17) hx₀ hb hts inlX10 hown hK hP 0 rfl rfl 6 (by decide) (hts (.fieldLink RX10 24 "BittenStick$Trip" "right" "LBittenStick$Goose;") wd_88) (fun _ h9 => h9) rfl dX10_flyGeese_82 ?_
          obtain ⟨hPc, hDc, hFc, hC⟩ := k_cw (wc := [(kX3 gR v0 v1 z2z3 z3z3)]) hP hD hS hA [1] (by decide +kernel) rfl
          refine va_callv (va_runV (As := []) (rest := []) ⟨hx₀, hb, hml, hown, hts⟩ (j_gFly l dC dI cI cJ cQ H.size gR v0 v1 z2z3 z3z3) (cwV 0 hts (kGV wd_482 wd_479 wd_480 wd_481 wd_84) rfl rfl rfl (by decide +kernel) ⟨Nat.le_of_ble_eq_true rfl, Nat.le_of_ble_eq_true rfl⟩) (k_preV3 (q0 := 0) hK hPc hDc hN rfl) rfl rfl hl.1 rfl (lv_room (Nat.le_of_ble_eq_true rfl)) dX10_flyGeese_85 ⟨by decide +kernel, by decide +kernel⟩) hS (fun q _ h => hFc q h) hFc (fun u₀ t₀ H1 locs ht hvm hw hB hz1 hk1 hS => ?_)
          obtain ⟨g_16, ga_17, gl_18, gb_19, gp_20⟩ := u₀
          obtain ⟨hP1, hK1, hD1⟩ := hB
          rw [ht] at hP1
          have hJ := k_jn (wr := [(kX10 aTr aLa aPa aGe gL gR gL gR tgo tca tki tso tbe twe tle tan tco ten), (kX4 aLa vLa l4 a4 n4), (kAI vLa cI 24 f4), (kX3 gL u0 u1 (g_8 0) (g_8 1))]) (wt := [(kX10 aTr aLa aPa aGe gL gR gL gR tgo tca tki tso tbe twe tle tan tco ten), (kX4 aLa vLa l4 a4 n4), (kAI vLa cI 24 f4), (kX3 gL u0 u1 (g_8 0) (g_8 1)), (kX3 gR v0 v1 (g_16 0) (g_16 1))]) hP hD hC [0, 2, 3, 4] rfl (by decide +kernel) (by decide +kernel) hk1 hFc hP1 hD1 rfl
          clear hP hD hPc hDc hFc hC hP1 hD1 hK1 hz1 hk1 hvm ht
          obtain ⟨hP, hD⟩ := hJ
          generalize H1 = H at hP hS ⊢
          try dsimp only at hw
          obtain ⟨c_21, c_22⟩ := hw
          refine lv_aload_n hx₀ hb dX10_flyGeese_88 rfl (lv_at hl 2 rfl) ?_
          refine va_get (D := (dC, dI)) (ci := 9) (v := .ref gL) (C := RX10) (T := TX10) (N := 17) hx₀ hb hts inlX10 hown hK hP 0 rfl rfl 5 (by decide) (hts (.fieldLink RX10 21 "BittenStick$Trip" "left" "LBittenStick$Goose;") wd_87) (fun _ h9 => h9) rfl dX10_flyGeese_89 ?_
          refine va_get (D := (dC, dI)) (ci := 3) (v := .int (g_8 0)) (C := RX3) (T := TX3) (N := 4) hx₀ hb hts inlX3 hown hK hP 3 rfl rfl 2 (by decide) (hts (.fieldLink RX10 97 "BittenStick$Goose" "strong" "I") wd_470) (fun _ h9 => h9) rfl dX10_flyGeese_92 ?_
          refine lv_aload_n hx₀ hb dX10_flyGeese_95 rfl (lv_at hl 2 rfl) ?_
          refine va_get (D := (dC, dI)) (ci := 9) (v := .int twe) (C := RX10) (T := TX10) (N := 17) hx₀ hb hts inlX10 hown hK hP 0 rfl rfl 12 (by decide) (hts (.fieldLink RX10 69 "BittenStick$Trip" "weight" "I") wd_458) (fun _ h9 => h9) rfl dX10_flyGeese_96 ?_
          refine lv_iconst (v := 1) hx₀ hb dX10_flyGeese_99 (by decide +kernel) ?_
          refine lv_iadd hx₀ hb dX10_flyGeese_100 ?_
          refine lv_iconst (v := 2) hx₀ hb dX10_flyGeese_101 (by decide +kernel) ?_
          refine lv_idiv hx₀ hb dX10_flyGeese_102 (by decide +kernel) ?_
          refine lv_icmp_lt (tgt := 122) hx₀ hb dX10_flyGeese_103 (by decide) (fun c_23 => ?_) (fun c_23 => ?_)
          · refine lv_iload_n hx₀ hb dX10_flyGeese_122 rfl (lv_at hl 1 rfl) ?_
            obtain ⟨hP9, hD9⟩ := k_c2 (wc := [(kX10 aTr aLa aPa aGe gL gR gL gR tgo tca tki tso tbe twe tle tan tco ten), (kX3 gL u0 u1 (g_8 0) (g_8 1)), (kX3 gR v0 v1 (g_16 0) (g_16 1)), (kX4 aLa vLa l4 a4 n4), (kAI vLa cI 24 f4)]) hP hD [0, 3, 4, 1, 2] (by decide +kernel) rfl
            exact W.iret (v := iz3) hx₀ hb hr (fun t₀ ht hW => ⟨⟨iz3, (k_fn [(g_8 0), (g_8 1), (g_16 0), (g_16 1)], k_fa [], k_fl [], k_fL [], k_fp [gL, gR]), rfl, ⟨(kCt_f hkz3.1 (lf_e_flyGeese_4 la1 iz3 jz3 hh0 hiz3_1 hjz3 c_4) c_6 c_13 c_21 (Or.inl c_23)), (Or.inl ⟨rfl, rfl, kGz_f hkz3.2 (lf_e_flyGeese_4 la1 iz3 jz3 hh0 hiz3_1 hjz3 c_4) c_6 c_13 c_14 c_21 c_22 (Or.inl c_23)⟩)⟩, by rw [ht]; exact hP9, va_K.moved hW.alike hK, hD9⟩, hS.F ht⟩) hS.2.2 dX10_flyGeese_123
          · refine lv_aload_n hx₀ hb dX10_flyGeese_106 rfl (lv_at hl 2 rfl) ?_
            refine va_get (D := (dC, dI)) (ci := 9) (v := .ref gR) (C := RX10) (T := TX10) (N := 17) hx₀ hb hts inlX10 hown hK hP 0 rfl rfl 6 (by decide) (hts (.fieldLink RX10 24 "BittenStick$Trip" "right" "LBittenStick$Goose;") wd_88) (fun _ h9 => h9) rfl dX10_flyGeese_107 ?_
            refine va_get (D := (dC, dI)) (ci := 3) (v := .int (g_16 0)) (C := RX3) (T := TX3) (N := 4) hx₀ hb hts inlX3 hown hK hP 4 rfl rfl 2 (by decide) (hts (.fieldLink RX10 97 "BittenStick$Goose" "strong" "I") wd_470) (fun _ h9 => h9) rfl dX10_flyGeese_110 ?_
            refine lv_aload_n hx₀ hb dX10_flyGeese_113 rfl (lv_at hl 2 rfl) ?_
            refine va_get (D := (dC, dI)) (ci := 9) (v := .int twe) (C := RX10) (T := TX10) (N := 17) hx₀ hb hts inlX10 hown hK hP 0 rfl rfl 12 (by decide) (hts (.fieldLink RX10 69 "BittenStick$Trip" "weight" "I") wd_458) (fun _ h9 => h9) rfl dX10_flyGeese_114 ?_
            refine lv_iconst (v := 2) hx₀ hb dX10_flyGeese_117 (by decide +kernel) ?_
            refine lv_idiv hx₀ hb dX10_flyGeese_118 (by decide +kernel) ?_
            refine lv_icmp_ge (tgt := 124) hx₀ hb dX10_flyGeese_119 (by decide) (fun c_24 => ?_) (fun c_24 => ?_)
            · refine lv_iload hx₀ hb dX10_flyGeese_124 (lv_at hl 0 rfl) ?_
              refine lv_bipush (v := 7) hx₀ hb dX10_flyGeese_126 (by decide +kernel) ?_
              refine lv_icmp_ne (tgt := 154) hx₀ hb dX10_flyGeese_128 (by decide) (fun c_25 => ?_) (fun c_25 => ?_)
              · refine lv_iinc (v := iz3 + 1) (lv' := [(3, .int (iz3 + 1)), (4, .int (kAt 24 f4 iz3)), (0, .ref aTr), (1, .int la1), (2, .int ro)]) hx₀ hb dX10_flyGeese_154 hl (k := 1) rfl rfl (by decide) rfl (fun ls hl => ?_)
                refine lv_goto (tgt := 32) hx₀ hb dX10_flyGeese_157 (by decide) ?_
                exact ihz3 _ (lf_e_flyGeese_6 la1 iz3 jz3 hh0 hiz3_1 hjz3 c_4) (iz3 + 1) gL gR (g_8 0) (g_8 1) (g_16 0) (g_16 1) _ _ _ (Or.inl ⟨rfl, rfl, kCt_o hkz3.1 (lf_e_flyGeese_4 la1 iz3 jz3 hh0 hiz3_1 hjz3 c_4) c_6 c_25 c_13 c_14 c_21 c_22 c_23 (Int32.not_lt.mpr c_24), kGz_o hkz3.2 (lf_e_flyGeese_4 la1 iz3 jz3 hh0 hiz3_1 hjz3 c_4) c_6 c_25 c_13 c_14 c_21 c_22 c_23 (Int32.not_lt.mpr c_24)⟩) (lf_e_flyGeese_5 la1 iz3 jz3 hh0 hiz3_1 hjz3 c_4) rfl (hP.sub [0, 1, 2, 3, 4] rfl) (hD.sub [0, 1, 2, 3, 4] (by decide +kernel) rfl) hS (lv_sub hl [0, 2, 3, 4] rfl)
              · refine lv_iload_n hx₀ hb dX10_flyGeese_131 rfl (lv_at hl 1 rfl) ?_
                refine lv_iload_n hx₀ hb dX10_flyGeese_132 rfl (lv_at hl 3 rfl) ?_
                refine lv_icmp_lt (tgt := 140) hx₀ hb dX10_flyGeese_133 (by decide) (fun c_26 => ?_) (fun c_26 => ?_)
                · refine lv_aload_n hx₀ hb dX10_flyGeese_140 rfl (lv_at hl 2 rfl) ?_
                  refine va_get (D := (dC, dI)) (ci := 9) (v := .ref gL) (C := RX10) (T := TX10) (N := 17) hx₀ hb hts inlX10 hown hK hP 0 rfl rfl 5 (by decide) (hts (.fieldLink RX10 21 "BittenStick$Trip" "left" "LBittenStick$Goose;") wd_87) (fun _ h9 => h9) rfl dX10_flyGeese_141 ?_
                  obtain ⟨hPc, hDc, hFc, hC⟩ := k_cw (wc := [(kX3 gL u0 u1 (g_8 0) (g_8 1))]) hP hD hS hA [3] (by decide +kernel) rfl
                  refine va_callv (va_runV (As := []) (rest := []) ⟨hx₀, hb, hml, hown, hts⟩ (j_gRest l dC dI cI cJ cQ H.size gL u0 u1 (g_8 0) (g_8 1)) (cwV 0 hts (kGV wd_487 wd_484 wd_485 wd_486 wd_84) rfl rfl rfl (by decide +kernel) ⟨Nat.le_of_ble_eq_true rfl, Nat.le_of_ble_eq_true rfl⟩) (k_preV3 (q0 := 0) hK hPc hDc hN rfl) rfl rfl hl.1 rfl (lv_room (Nat.le_of_ble_eq_true rfl)) dX10_flyGeese_144 ⟨by decide +kernel, by decide +kernel⟩) hS (fun q _ h => hFc q h) hFc (fun u₀ t₀ H1 locs ht hvm hw hB hz1 hk1 hS => ?_)
                  obtain ⟨g_28, ga_29, gl_30, gb_31, gp_32⟩ := u₀
                  obtain ⟨hP1, hK1, hD1⟩ := hB
                  rw [ht] at hP1
                  have hJ := k_jn (wr := [(kX10 aTr aLa aPa aGe gL gR gL gR tgo tca tki tso tbe twe tle tan tco ten), (kX4 aLa vLa l4 a4 n4), (kAI vLa cI 24 f4), (kX3 gR v0 v1 (g_16 0) (g_16 1))]) (wt := [(kX10 aTr aLa aPa aGe gL gR gL gR tgo tca tki tso tbe twe tle tan tco ten), (kX4 aLa vLa l4 a4 n4), (kAI vLa cI 24 f4), (kX3 gR v0 v1 (g_16 0) (g_16 1)), (kX3 gL u0 u1 (g_28 0) (g_8 1))]) hP hD hC [0, 1, 2, 4] rfl (by decide +kernel) (by decide +kernel) hk1 hFc hP1 hD1 rfl
                  clear hP hD hPc hDc hFc hC hP1 hD1 hK1 hz1 hk1 hvm ht
                  obtain ⟨hP, hD⟩ := hJ
                  generalize H1 = H at hP hS ⊢
                  try dsimp only at hw
                  have c_33 := hw
                  refine lv_aload_n hx₀ hb dX10_flyGeese_147 rfl (lv_at hl 2 rfl) ?_
                  refine va_get (D := (dC, dI)) (ci := 9) (v := .ref gR) (C := RX10) (T := TX10) (N := 17) hx₀ hb hts inlX10 hown hK hP 0 rfl rfl 6 (by decide) (hts (.fieldLink RX10 24 "BittenStick$Trip" "right" "LBittenStick$Goose;") wd_88) (fun _ h9 => h9) rfl dX10_flyGeese_148 ?_
                  obtain ⟨hPc, hDc, hFc, hC⟩ := k_cw (wc := [(kX3 gR v0 v1 (g_16 0) (g_16 1))]) hP hD hS hA [3] (by decide +kernel) rfl
                  refine va_callv (va_runV (As := []) (rest := []) ⟨hx₀, hb, hml, hown, hts⟩ (j_gRest l dC dI cI cJ cQ H.size gR v0 v1 (g_16 0) (g_16 1)) (cwV 0 hts (kGV wd_487 wd_484 wd_485 wd_486 wd_84) rfl rfl rfl (by decide +kernel) ⟨Nat.le_of_ble_eq_true rfl, Nat.le_of_ble_eq_true rfl⟩) (k_preV3 (q0 := 0) hK hPc hDc hN rfl) rfl rfl hl.1 rfl (lv_room (Nat.le_of_ble_eq_true rfl)) dX10_flyGeese_151 ⟨by decide +kernel, by decide +kernel⟩) hS (fun q _ h => hFc q h) hFc (fun u₀ t₀ H1 locs ht hvm hw hB hz1 hk1 hS => ?_)
                  obtain ⟨g_35, ga_36, gl_37, gb_38, gp_39⟩ := u₀
                  obtain ⟨hP1, hK1, hD1⟩ := hB
                  rw [ht] at hP1
                  have hJ := k_jn (wr := [(kX10 aTr aLa aPa aGe gL gR gL gR tgo tca tki tso tbe twe tle tan tco ten), (kX4 aLa vLa l4 a4 n4), (kAI vLa cI 24 f4), (kX3 gL u0 u1 (g_28 0) (g_8 1))]) (wt := [(kX10 aTr aLa aPa aGe gL gR gL gR tgo tca tki tso tbe twe tle tan tco ten), (kX4 aLa vLa l4 a4 n4), (kAI vLa cI 24 f4), (kX3 gL u0 u1 (g_28 0) (g_8 1)), (kX3 gR v0 v1 (g_35 0) (g_16 1))]) hP hD hC [0, 1, 2, 4] rfl (by decide +kernel) (by decide +kernel) hk1 hFc hP1 hD1 rfl
                  clear hP hD hPc hDc hFc hC hP1 hD1 hK1 hz1 hk1 hvm ht
                  obtain ⟨hP, hD⟩ := hJ
                  generalize H1 = H at hP hS ⊢
                  try dsimp only at hw
                  have c_40 := hw
                  refine lv_iinc (v := iz3 + 1) (lv' := [(3, .int (iz3 + 1)), (4, .int (kAt 24 f4 iz3)), (0, .ref aTr), (1, .int la1), (2, .int ro)]) hx₀ hb dX10_flyGeese_154 hl (k := 1) rfl rfl (by decide) rfl (fun ls hl => ?_)
                  refine lv_goto (tgt := 32) hx₀ hb dX10_flyGeese_157 (by decide) ?_
                  exact ihz3 _ (lf_e_flyGeese_10 la1 iz3 jz3 hh0 hiz3_1 hjz3 c_4 c_26) (iz3 + 1) gL gR (g_28 0) (g_8 1) (g_35 0) (g_16 1) _ _ _ (Or.inl ⟨rfl, rfl, kCt_i hkz3.1 (lf_e_flyGeese_7 la1 iz3 jz3 hh0 hiz3_1 hjz3 c_4 c_26) c_25 c_13 c_14 c_21 c_22 c_23 (Int32.not_lt.mpr c_24) c_33 c_40, kGz_i hkz3.2 (lf_e_flyGeese_7 la1 iz3 jz3 hh0 hiz3_1 hjz3 c_4 c_26) c_25 c_13 c_14 c_21 c_22 c_23 (Int32.not_lt.mpr c_24) c_33 c_40 (Or.inl (lf_e_flyGeese_8 la1 iz3 jz3 hh0 hiz3_1 hjz3 c_4 c_26))⟩) (lf_e_flyGeese_9 la1 iz3 jz3 hh0 hiz3_1 hjz3 c_4 c_26) rfl (hP.sub [0, 1, 2, 3, 4] rfl) (hD.sub [0, 1, 2, 3, 4] (by decide +kernel) rfl) hS (lv_sub hl [0, 2, 3, 4] rfl)
                · refine lv_iload_n hx₀ hb dX10_flyGeese_136 rfl (lv_at hl 4 rfl) ?_
                  refine lv_if_eq (tgt := 154) hx₀ hb dX10_flyGeese_137 (by decide) (fun c_41 => ?_) (fun c_41 => ?_)
                  · refine lv_iinc (v := iz3 + 1) (lv' := [(3, .int (iz3 + 1)), (4, .int (kAt 24 f4 iz3)), (0, .ref aTr), (1, .int la1), (2, .int ro)]) hx₀ hb dX10_flyGeese_154 hl (k := 1) rfl rfl (by decide) rfl (fun ls hl => ?_)
                    refine lv_goto (tgt := 32) hx₀ hb dX10_flyGeese_157 (by decide) ?_
                    exact ihz3 _ (lf_e_flyGeese_14 la1 iz3 jz3 hh0 hiz3_1 hjz3 c_4 c_26) (iz3 + 1) gL gR (g_8 0) (g_8 1) (g_16 0) (g_16 1) _ _ _ (Or.inl ⟨rfl, rfl, kCt_l hkz3.1 (lf_e_flyGeese_11 la1 iz3 jz3 hh0 hiz3_1 hjz3 c_4 c_26) c_25 c_13 c_21 c_23 (Int32.not_lt.mpr c_24) (lf_e_flyGeese_12 la1 iz3 jz3 hh0 hiz3_1 hjz3 c_4 c_26), kGz_l hkz3.2 (lf_e_flyGeese_11 la1 iz3 jz3 hh0 hiz3_1 hjz3 c_4 c_26) c_25 c_13 c_14 c_21 c_22 c_23 (Int32.not_lt.mpr c_24) (lf_e_flyGeese_12 la1 iz3 jz3 hh0 hiz3_1 hjz3 c_4 c_26) c_41⟩) (lf_e_flyGeese_13 la1 iz3 jz3 hh0 hiz3_1 hjz3 c_4 c_26) rfl (hP.sub [0, 1, 2, 3, 4] rfl) (hD.sub [0, 1, 2, 3, 4] (by decide +kernel) rfl) hS (lv_sub hl [0, 2, 3, 4] rfl)
                  · refine lv_aload_n hx₀ hb dX10_flyGeese_140 rfl (lv_at hl 2 rfl) ?_
                    refine va_get (D := (dC, dI)) (ci := 9) (v := .ref gL) (C := RX10) (T := TX10) (N := 17) hx₀ hb hts inlX10 hown hK hP 0 rfl rfl 5 (by decide) (hts (.fieldLink RX10 21 "BittenStick$Trip" "left" "LBittenStick$Goose;") wd_87) (fun _ h9 => h9) rfl dX10_flyGeese_141 ?_
                    obtain ⟨hPc, hDc, hFc, hC⟩ := k_cw (wc := [(kX3 gL u0 u1 (g_8 0) (g_8 1))]) hP hD hS hA [3] (by decide +kernel) rfl
                    refine va_callv (va_runV (As := []) (rest := []) ⟨hx₀, hb, hml, hown, hts⟩ (j_gRest l dC dI cI cJ cQ H.size gL u0 u1 (g_8 0) (g_8 1)) (cwV 0 hts (kGV wd_487 wd_484 wd_485 wd_486 wd_84) rfl rfl rfl (by decide +kernel) ⟨Nat.le_of_ble_eq_true rfl, Nat.le_of_ble_eq_true rfl⟩) (k_preV3 (q0 := 0) hK hPc hDc hN rfl) rfl rfl hl.1 rfl (lv_room (Nat.le_of_ble_eq_true rfl)) dX10_flyGeese_144 ⟨by decide +kernel, by decide +kernel⟩) hS (fun q _ h => hFc q h) hFc (fun u₀ t₀ H1 locs ht hvm hw hB hz1 hk1 hS => ?_)
                    obtain ⟨g_43, ga_44, gl_45, gb_46, gp_47⟩ := u₀
                    obtain ⟨hP1, hK1, hD1⟩ := hB
                    rw [ht] at hP1
                    have hJ := k_jn (wr := [(kX10 aTr aLa aPa aGe gL gR gL gR tgo tca tki tso tbe twe tle tan tco ten), (kX4 aLa vLa l4 a4 n4), (kAI vLa cI 24 f4), (kX3 gR v0 v1 (g_16 0) (g_16 1))]) (wt := [(kX10 aTr aLa aPa aGe gL gR gL gR tgo tca tki tso tbe twe tle tan tco ten), (kX4 aLa vLa l4 a4 n4), (kAI vLa cI 24 f4), (kX3 gR v0 v1 (g_16 0) (g_16 1)), (kX3 gL u0 u1 (g_43 0) (g_8 1))]) hP hD hC [0, 1, 2, 4] rfl (by decide +kernel) (by decide +kernel) hk1 hFc hP1 hD1 rfl
                    clear hP hD hPc hDc hFc hC hP1 hD1 hK1 hz1 hk1 hvm ht
                    obtain ⟨hP, hD⟩ := hJ
                    generalize H1 = H at hP hS ⊢
                    try dsimp only at hw
                    have c_48 := hw
                    refine lv_aload_n hx₀ hb dX10_flyGeese_147 rfl (lv_at hl 2 rfl) ?_
                    refine va_get (D := (dC, dI)) (ci := 9) (v := .ref gR) (C := RX10) (T := TX10) (N := 17) hx₀ hb hts inlX10 hown hK hP 0 rfl rfl 6 (by decide) (hts (.fieldLink RX10 24 "BittenStick$Trip" "right" "LBittenStick$Goose;") wd_88) (fun _ h9 => h9) rfl dX10_flyGeese_148 ?_
                    obtain ⟨hPc, hDc, hFc, hC⟩ := k_cw (wc := [(kX3 gR v0 v1 (g_16 0) (g_16 1))]) hP hD hS hA [3] (by decide +kernel) rfl
                    refine va_callv (va_runV (As := []) (rest := []) ⟨hx₀, hb, hml, hown, hts⟩ (j_gRest l dC dI cI cJ cQ H.size gR v0 v1 (g_16 0) (g_16 1)) (cwV 0 hts (kGV wd_487 wd_484 wd_485 wd_486 wd_84) rfl rfl rfl (by decide +kernel) ⟨Nat.le_of_ble_eq_true rfl, Nat.le_of_ble_eq_true rfl⟩) (k_preV3 (q0 := 0) hK hPc hDc hN rfl) rfl rfl hl.1 rfl (lv_room (Nat.le_of_ble_eq_true rfl)) dX10_flyGeese_151 ⟨by decide +kernel, by decide +kernel⟩) hS (fun q _ h => hFc q h) hFc (fun u₀ t₀ H1 locs ht hvm hw hB hz1 hk1 hS => ?_)
                    obtain ⟨g_50, ga_51, gl_52, gb_53, gp_54⟩ := u₀
                    obtain ⟨hP1, hK1, hD1⟩ := hB
                    rw [ht] at hP1
                    have hJ := k_jn (wr := [(kX10 aTr aLa aPa aGe gL gR gL gR tgo tca tki tso tbe twe tle tan tco ten), (kX4 aLa vLa l4 a4 n4), (kAI vLa cI 24 f4), (kX3 gL u0 u1 (g_43 0) (g_8 1))]) (wt := [(kX10 aTr aLa aPa aGe gL gR gL gR tgo tca tki tso tbe twe tle tan tco ten), (kX4 aLa vLa l4 a4 n4), (kAI vLa cI 24 f4), (kX3 gL u0 u1 (g_43 0) (g_8 1)), (kX3 gR v0 v1 (g_50 0) (g_16 1))]) hP hD hC [0, 1, 2, 4] rfl (by decide +kernel) (by decide +kernel) hk1 hFc hP1 hD1 rfl
                    clear hP hD hPc hDc hFc hC hP1 hD1 hK1 hz1 hk1 hvm ht
                    obtain ⟨hP, hD⟩ := hJ
                    generalize H1 = H at hP hS ⊢
                    try dsimp only at hw
                    have c_55 := hw
                    refine lv_iinc (v := iz3 + 1) (lv' := [(3, .int (iz3 + 1)), (4, .int (kAt 24 f4 iz3)), (0, .ref aTr), (1, .int la1), (2, .int ro)]) hx₀ hb dX10_flyGeese_154 hl (k := 1) rfl rfl (by decide) rfl (fun ls hl => ?_)
                    refine lv_goto (tgt := 32) hx₀ hb dX10_flyGeese_157 (by decide) ?_
                    exact ihz3 _ (lf_e_flyGeese_14 la1 iz3 jz3 hh0 hiz3_1 hjz3 c_4 c_26) (iz3 + 1) gL gR (g_43 0) (g_8 1) (g_50 0) (g_16 1) _ _ _ (Or.inl ⟨rfl, rfl, kCt_i hkz3.1 (lf_e_flyGeese_11 la1 iz3 jz3 hh0 hiz3_1 hjz3 c_4 c_26) c_25 c_13 c_14 c_21 c_22 c_23 (Int32.not_lt.mpr c_24) c_48 c_55, kGz_i hkz3.2 (lf_e_flyGeese_11 la1 iz3 jz3 hh0 hiz3_1 hjz3 c_4 c_26) c_25 c_13 c_14 c_21 c_22 c_23 (Int32.not_lt.mpr c_24) c_48 c_55 (Or.inr c_41)⟩) (lf_e_flyGeese_13 la1 iz3 jz3 hh0 hiz3_1 hjz3 c_4 c_26) rfl (hP.sub [0, 1, 2, 3, 4] rfl) (hD.sub [0, 1, 2, 3, 4] (by decide +kernel) rfl) hS (lv_sub hl [0, 2, 3, 4] rfl)
            · refine lv_iload_n hx₀ hb dX10_flyGeese_122 rfl (lv_at hl 1 rfl) ?_
              obtain ⟨hP9, hD9⟩ := k_c2 (wc := [(kX10 aTr aLa aPa aGe gL gR gL gR tgo tca tki tso tbe twe tle tan tco ten), (kX3 gL u0 u1 (g_8 0) (g_8 1)), (kX3 gR v0 v1 (g_16 0) (g_16 1)), (kX4 aLa vLa l4 a4 n4), (kAI vLa cI 24 f4)]) hP hD [0, 3, 4, 1, 2] (by decide +kernel) rfl
              exact W.iret (v := iz3) hx₀ hb hr (fun t₀ ht hW => ⟨⟨iz3, (k_fn [(g_8 0), (g_8 1), (g_16 0), (g_16 1)], k_fa [], k_fl [], k_fL [], k_fp [gL, gR]), rfl, ⟨(kCt_f hkz3.1 (lf_e_flyGeese_4 la1 iz3 jz3 hh0 hiz3_1 hjz3 c_4) c_6 c_13 c_21 (Or.inr (Int32.not_le.mp c_24))), (Or.inl ⟨rfl, rfl, kGz_f hkz3.2 (lf_e_flyGeese_4 la1 iz3 jz3 hh0 hiz3_1 hjz3 c_4) c_6 c_13 c_14 c_21 c_22 (Or.inr (Int32.not_le.mp c_24))⟩)⟩, by rw [ht]; exact hP9, va_K.moved hW.alike hK, hD9⟩, hS.F ht⟩) hS.2.2 dX10_flyGeese_123
        · refine lv_aload_n hx₀ hb dX10_flyGeese_54 rfl (lv_at hl 2 rfl) ?_
          refine va_get (D := (dC, dI)) (ci := 9) (v := .ref gL) (C := RX10) (T := TX10) (N := 17) hx₀ hb hts inlX10 hown hK hP 0 rfl rfl 5 (by decide) (hts (.fieldLink RX10 21 "BittenStick$Trip" "left" "LBittenStick$Goose;") wd_87) (fun _ h9 => h9) rfl dX10_flyGeese_55 ?_
          refine lv_astore (lv' := [(5, .ref gL), (4, .int (kAt 24 f4 iz3)), (3, .int iz3), (0, .ref aTr), (1, .int la1), (2, .int ro)]) hx₀ hb dX10_flyGeese_58 hl (by decide) rfl (fun ls hl => ?_)
          refine lv_aload_n hx₀ hb dX10_flyGeese_60 rfl (lv_at hl 3 rfl) ?_
          refine lv_aload_n hx₀ hb dX10_flyGeese_61 rfl (lv_at hl 3 rfl) ?_
          refine va_get (D := (dC, dI)) (ci := 9) (v := .ref gR) (C := RX10) (T := TX10) (N := 17) hx₀ hb hts inlX10 hown hK hP 0 rfl rfl 6 (by decide) (hts (.fieldLink RX10 24 "BittenStick$Trip" "right" "LBittenStick$Goose;") wd_88) (fun _ h9 => h9) rfl dX10_flyGeese_62 ?_
          refine va_put (D := (dC, dI)) (ci := 9) (v := .ref gR) (ty := .object "BittenStick$Goose") (C := RX10) (T := TX10) (N := 17) hx₀ hb hts inlX10 tyX10 tyX10_ok nmX10 hown hK hP hD hS 0 rfl rfl 5 (by decide) (hts (.fieldLink RX10 21 "BittenStick$Trip" "left" "LBittenStick$Goose;") wd_87) (fun _ h9 => h9) rfl (by decide +kernel) rfl rfl (Nat.le_of_ble_eq_true rfl) dX10_flyGeese_65 ?_
          clear hP hD hS
          intro H locs hP hD hS
          replace hP := k_w2 (wt := [(kX10 aTr aLa aPa aGe gL gR gR gR tgo tca tki tso tbe twe tle tan tco ten), (kX3 gL u0 u1 w2z3 w3z3), (kX3 gR v0 v1 z2z3 z3z3), (kX4 aLa vLa l4 a4 n4), (kAI vLa cI 24 f4)]) hP hD rfl
          replace hD := hP.2
          replace hP := hP.1
          refine lv_aload_n hx₀ hb dX10_flyGeese_68 rfl (lv_at hl 3 rfl) ?_
          refine lv_aload hx₀ hb dX10_flyGeese_69 (lv_at hl 0 rfl) ?_
          refine va_put (D := (dC, dI)) (ci := 9) (v := .ref gL) (ty := .object "BittenStick$Goose") (C := RX10) (T := TX10) (N := 17) hx₀ hb hts inlX10 tyX10 tyX10_ok nmX10 hown hK hP hD hS 0 rfl rfl 6 (by decide) (hts (.fieldLink RX10 24 "BittenStick$Trip" "right" "LBittenStick$Goose;") wd_88) (fun _ h9 => h9) rfl (by decide +kernel) rfl rfl (Nat.le_of_ble_eq_true rfl) dX10_flyGeese_71 ?_
          clear hP hD hS
          intro H locs hP hD hS
          replace hP := k_w2 (wt := [(kX10 aTr aLa aPa aGe gL gR gR gL tgo tca tki tso tbe twe tle tan tco ten), (kX3 gL u0 u1 w2z3 w3z3), (kX3 gR v0 v1 z2z3 z3z3), (kX4 aLa vLa l4 a4 n4), (kAI vLa cI 24 f4)]) hP hD rfl
          replace hD := hP.2
          replace hP := hP.1
          refine lv_aload_n hx₀ hb dX10_flyGeese_74 rfl (lv_at hl 3 rfl) ?_
          refine va_get (D := (dC, dI)) (ci := 9) (v := .ref gR) (C := RX10) (T := TX10) (N := 17) hx₀ hb hts inlX10 hown hK hP 0 rfl rfl 5 (by decide) (hts (.fieldLink RX10 21 "BittenStick$Trip" "left" "LBittenStick$Goose;") wd_87) (fun _ h9 => h9) rfl dX10_flyGeese_75 ?_
          obtain ⟨hPc, hDc, hFc, hC⟩ := k_cw (wc := [(kX3 gR v0 v1 z2z3 z3z3)]) hP hD hS hA [2] (by decide +kernel) rfl
          refine va_callv (va_runV (As := []) (rest := []) ⟨hx₀, hb, hml, hown, hts⟩ (j_gFly l dC dI cI cJ cQ H.size gR v0 v1 z2z3 z3z3) (cwV 0 hts (kGV wd_482 wd_479 wd_480 wd_481 wd_84) rfl rfl rfl (by decide +kernel) ⟨Nat.le_of_ble_eq_true rfl, Nat.le_of_ble_eq_true rfl⟩) (k_preV3 (q0 := 0) hK hPc hDc hN rfl) rfl rfl hl.1 rfl (lv_room (Nat.le_of_ble_eq_true rfl)) dX10_flyGeese_78 ⟨by decide +kernel, by decide +kernel⟩) hS (fun q _ h => hFc q h) hFc (fun u₀ t₀ H1 locs ht hvm hw hB hz1 hk1 hS => ?_)
          obtain ⟨g_57, ga_58, gl_59, gb_60, gp_61⟩ := u₀
          obtain ⟨hP1, hK1, hD1⟩ := hB
          rw [ht] at hP1
          have hJ := k_jn (wr := [(kX10 aTr aLa aPa aGe gL gR gR gL tgo tca tki tso tbe twe tle tan tco ten), (kX3 gL u0 u1 w2z3 w3z3), (kX4 aLa vLa l4 a4 n4), (kAI vLa cI 24 f4)]) (wt := [(kX10 aTr aLa aPa aGe gL gR gR gL tgo tca tki tso tbe twe tle tan tco ten), (kX3 gL u0 u1 w2z3 w3z3), (kX4 aLa vLa l4 a4 n4), (kAI vLa cI 24 f4), (kX3 gR v0 v1 (g_57 0) (g_57 1))]) hP hD hC [0, 1, 3, 4] rfl (by decide +kernel) (by decide +kernel) hk1 hFc hP1 hD1 rfl
          clear hP hD hPc hDc hFc hC hP1 hD1 hK1 hz1 hk1 hvm ht
          obtain ⟨hP, hD⟩ := hJ
          generalize H1 = H at hP hS ⊢
          try dsimp only at hw
          obtain ⟨c_62, c_63⟩ := hw
          refine lv_aload_n hx₀ hb dX10_flyGeese_81 rfl (lv_at hl 3 rfl) ?_
          refine va_get (D := (dC, dI)) (ci := 9) (v := .ref gL) (C := RX10) (T := TX10) (N := 17) hx₀ hb hts inlX10 hown hK hP 0 rfl rfl 6 (by decide) (hts (.fieldLink RX10 24 "BittenStick$Trip" "right" "LBittenStick$Goose;") wd_88) (fun _ h9 => h9) rfl dX10_flyGeese_82 ?_
          obtain ⟨hPc, hDc, hFc, hC⟩ := k_cw (wc := [(kX3 gL u0 u1 w2z3 w3z3)]) hP hD hS hA [1] (by decide +kernel) rfl
          refine va_callv (va_runV (As := []) (rest := []) ⟨hx₀, hb, hml, hown, hts⟩ (j_gFly l dC dI cI cJ cQ H.size gL u0 u1 w2z3 w3z3) (cwV 0 hts (kGV wd_482 wd_479 wd_480 wd_481 wd_84) rfl rfl rfl (by decide +kernel) ⟨Nat.le_of_ble_eq_true rfl, Nat.le_of_ble_eq_true rfl⟩) (k_preV3 (q0 := 0) hK hPc hDc hN rfl) rfl rfl hl.1 rfl (lv_room (Nat.le_of_ble_eq_true rfl)) dX10_flyGeese_85 ⟨by decide +kernel, by decide +kernel⟩) hS (fun q _ h => hFc q h) hFc (fun u₀ t₀ H1 locs ht hvm hw hB hz1 hk1 hS => ?_)
          obtain ⟨g_65, ga_66, gl_67, gb_68, gp_69⟩ := u₀
          obtain ⟨hP1, hK1, hD1⟩ := hB
          rw [ht] at hP1
          have hJ := k_jn (wr := [(kX10 aTr aLa aPa aGe gL gR gR gL tgo tca tki tso tbe twe tle tan tco ten), (kX4 aLa vLa l4 a4 n4), (kAI vLa cI 24 f4), (kX3 gR v0 v1 (g_57 0) (g_57 1))]) (wt := [(kX10 aTr aLa aPa aGe gL gR gR gL tgo tca tki tso tbe twe tle tan tco ten), (kX4 aLa vLa l4 a4 n4), (kAI vLa cI 24 f4), (kX3 gR v0 v1 (g_57 0) (g_57 1)), (kX3 gL u0 u1 (g_65 0) (g_65 1))]) hP hD hC [0, 2, 3, 4] rfl (by decide +kernel) (by decide +kernel) hk1 hFc hP1 hD1 rfl
          clear hP hD hPc hDc hFc hC hP1 hD1 hK1 hz1 hk1 hvm ht
          obtain ⟨hP, hD⟩ := hJ
          generalize H1 = H at hP hS ⊢
          try dsimp only at hw
          obtain ⟨c_70, c_71⟩ := hw
          refine lv_aload_n hx₀ hb dX10_flyGeese_88 rfl (lv_at hl 3 rfl) ?_
          refine va_get (D := (dC, dI)) (ci := 9) (v := .ref gR) (C := RX10) (T := TX10) (N := 17) hx₀ hb hts inlX10 hown hK hP 0 rfl rfl 5 (by decide) (hts (.fieldLink RX10 21 "BittenStick$Trip" "left" "LBittenStick$Goose;") wd_87) (fun _ h9 => h9) rfl dX10_flyGeese_89 ?_
          refine va_get (D := (dC, dI)) (ci := 3) (v := .int (g_57 0)) (C := RX3) (T := TX3) (N := 4) hx₀ hb hts inlX3 hown hK hP 3 rfl rfl 2 (by decide) (hts (.fieldLink RX10 97 "BittenStick$Goose" "strong" "I") wd_470) (fun _ h9 => h9) rfl dX10_flyGeese_92 ?_
          refine lv_aload_n hx₀ hb dX10_flyGeese_95 rfl (lv_at hl 3 rfl) ?_
          refine va_get (D := (dC, dI)) (ci := 9) (v := .int twe) (C := RX10) (T := TX10) (N := 17) hx₀ hb hts inlX10 hown hK hP 0 rfl rfl 12 (by decide) (hts (.fieldLink RX10 69 "BittenStick$Trip" "weight" "I") wd_458) (fun _ h9 => h9) rfl dX10_flyGeese_96 ?_
          refine lv_iconst (v := 1) hx₀ hb dX10_flyGeese_99 (by decide +kernel) ?_
          refine lv_iadd hx₀ hb dX10_flyGeese_100 ?_
          refine lv_iconst (v := 2) hx₀ hb dX10_flyGeese_101 (by decide +kernel) ?_
          refine lv_idiv hx₀ hb dX10_flyGeese_102 (by decide +kernel) ?_
          refine lv_icmp_lt (tgt := 122) hx₀ hb dX10_flyGeese_103 (by decide) (fun c_72 => ?_) (fun c_72 => ?_)
          · refine lv_iload_n hx₀ hb dX10_flyGeese_122 rfl (lv_at hl 2 rfl) ?_
            obtain ⟨hP9, hD9⟩ := k_c2 (wc := [(kX10 aTr aLa aPa aGe gL gR gR gL tgo tca tki tso tbe twe tle tan tco ten), (kX3 gL u0 u1 (g_65 0) (g_65 1)), (kX3 gR v0 v1 (g_57 0) (g_57 1)), (kX4 aLa vLa l4 a4 n4), (kAI vLa cI 24 f4)]) hP hD [0, 4, 3, 1, 2] (by decide +kernel) rfl
            exact W.iret (v := iz3) hx₀ hb hr (fun t₀ ht hW => ⟨⟨iz3, (k_fn [(g_65 0), (g_65 1), (g_57 0), (g_57 1)], k_fa [], k_fl [], k_fL [], k_fp [gR, gL]), rfl, ⟨(kCt_fw hkz3.1 (lf_e_flyGeese_4 la1 iz3 jz3 hh0 hiz3_1 hjz3 c_4) c_6 c_62 c_70 (Or.inl c_72)), (Or.inr ⟨rfl, rfl, kGz_fw hkz3.2 (lf_e_flyGeese_4 la1 iz3 jz3 hh0 hiz3_1 hjz3 c_4) c_6 c_62 c_63 c_70 c_71 (Or.inl c_72)⟩)⟩, by rw [ht]; exact hP9, va_K.moved hW.alike hK, hD9⟩, hS.F ht⟩) hS.2.2 dX10_flyGeese_123
          · refine lv_aload_n hx₀ hb dX10_flyGeese_106 rfl (lv_at hl 3 rfl) ?_
            refine va_get (D := (dC, dI)) (ci := 9) (v := .ref gL) (C := RX10) (T := TX10) (N := 17) hx₀ hb hts inlX10 hown hK hP 0 rfl rfl 6 (by decide) (hts (.fieldLink RX10 24 "BittenStick$Trip" "right" "LBittenStick$Goose;") wd_88) (fun _ h9 => h9) rfl dX10_flyGeese_107 ?_
            refine va_get (D := (dC, dI)) (ci := 3) (v := .int (g_65 0)) (C := RX3) (T := TX3) (N := 4) hx₀ hb hts inlX3 hown hK hP 4 rfl rfl 2 (by decide) (hts (.fieldLink RX10 97 "BittenStick$Goose" "strong" "I") wd_470) (fun _ h9 => h9) rfl dX10_flyGeese_110 ?_
            refine lv_aload_n hx₀ hb dX10_flyGeese_113 rfl (lv_at hl 3 rfl) ?_
            refine va_get (D := (dC, dI)) (ci := 9) (v := .int twe) (C := RX10) (T := TX10) (N := 17) hx₀ hb hts inlX10 hown hK hP 0 rfl rfl 12 (by decide) (hts (.fieldLink RX10 69 "BittenStick$Trip" "weight" "I") wd_458) (fun _ h9 => h9) rfl dX10_flyGeese_114 ?_
            refine lv_iconst (v := 2) hx₀ hb dX10_flyGeese_117 (by decide +kernel) ?_
            refine lv_idiv hx₀ hb dX10_flyGeese_118 (by decide +kernel) ?_
            refine lv_icmp_ge (tgt := 124) hx₀ hb dX10_flyGeese_119 (by decide) (fun c_73 => ?_) (fun c_73 => ?_)
            · refine lv_iload hx₀ hb dX10_flyGeese_124 (lv_at hl 1 rfl) ?_
              refine lv_bipush (v := 7) hx₀ hb dX10_flyGeese_126 (by decide +kernel) ?_
              refine lv_icmp_ne (tgt := 154) hx₀ hb dX10_flyGeese_128 (by decide) (fun c_74 => ?_) (fun c_74 => ?_)
              · refine lv_iinc (v := iz3 + 1) (lv' := [(3, .int (iz3 + 1)), (5, .ref gL), (4, .int (kAt 24 f4 iz3)), (0, .ref aTr), (1, .int la1), (2, .int ro)]) hx₀ hb dX10_flyGeese_154 hl (k := 2) rfl rfl (by decide) rfl (fun ls hl => ?_)
                refine lv_goto (tgt := 32) hx₀ hb dX10_flyGeese_157 (by decide) ?_
                exact ihz3 _ (lf_e_flyGeese_6 la1 iz3 jz3 hh0 hiz3_1 hjz3 c_4) (iz3 + 1) gR gL (g_65 0) (g_65 1) (g_57 0) (g_57 1) _ _ _ (Or.inr ⟨rfl, rfl, kCt_w hkz3.1 (lf_e_flyGeese_4 la1 iz3 jz3 hh0 hiz3_1 hjz3 c_4) c_6 c_62 c_63 c_70 c_71 c_72 (Int32.not_lt.mpr c_73), kGz_w hkz3.2 (lf_e_flyGeese_4 la1 iz3 jz3 hh0 hiz3_1 hjz3 c_4) c_6 c_62 c_63 c_70 c_71 c_72 (Int32.not_lt.mpr c_73)⟩) (lf_e_flyGeese_5 la1 iz3 jz3 hh0 hiz3_1 hjz3 c_4) rfl (hP.sub [0, 1, 2, 4, 3] rfl) (hD.sub [0, 1, 2, 4, 3] (by decide +kernel) rfl) hS (lv_sub hl [0, 3, 4, 5] rfl)
              · refine lv_iload_n hx₀ hb dX10_flyGeese_131 rfl (lv_at hl 2 rfl) ?_
                refine lv_iload_n hx₀ hb dX10_flyGeese_132 rfl (lv_at hl 4 rfl) ?_
                refine lv_icmp_lt (tgt := 140) hx₀ hb dX10_flyGeese_133 (by decide) (fun c_75 => ?_) (fun c_75 => ?_)
                · refine lv_aload_n hx₀ hb dX10_flyGeese_140 rfl (lv_at hl 3 rfl) ?_
                  refine va_get (D := (dC, dI)) (ci := 9) (v := .ref gR) (C := RX10) (T := TX10) (N := 17) hx₀ hb hts inlX10 hown hK hP 0 rfl rfl 5 (by decide) (hts (.fieldLink RX10 21 "BittenStick$Trip" "left" "LBittenStick$Goose;") wd_87) (fun _ h9 => h9) rfl dX10_flyGeese_141 ?_
                  obtain ⟨hPc, hDc, hFc, hC⟩ := k_cw (wc := [(kX3 gR v0 v1 (g_57 0) (g_57 1))]) hP hD hS hA [3] (by decide +kernel) rfl
                  refine va_callv (va_runV (As := []) (rest := []) ⟨hx₀, hb, hml, hown, hts⟩ (j_gRest l dC dI cI cJ cQ H.size gR v0 v1 (g_57 0) (g_57 1)) (cwV 0 hts (kGV wd_487 wd_484 wd_485 wd_486 wd_84) rfl rfl rfl (by decide +kernel) ⟨Nat.le_of_ble_eq_true rfl, Nat.le_of_ble_eq_true rfl⟩) (k_preV3 (q0 := 0) hK hPc hDc hN rfl) rfl rfl hl.1 rfl (lv_room (Nat.le_of_ble_eq_true rfl)) dX10_flyGeese_144 ⟨by decide +kernel, by decide +kernel⟩) hS (fun q _ h => hFc q h) hFc (fun u₀ t₀ H1 locs ht hvm hw hB hz1 hk1 hS => ?_)
                  obtain ⟨g_77, ga_78, gl_79, gb_80, gp_81⟩ := u₀
                  obtain ⟨hP1, hK1, hD1⟩ := hB
                  rw [ht] at hP1
                  have hJ := k_jn (wr := [(kX10 aTr aLa aPa aGe gL gR gR gL tgo tca tki tso tbe twe tle tan tco ten), (kX4 aLa vLa l4 a4 n4), (kAI vLa cI 24 f4), (kX3 gL u0 u1 (g_65 0) (g_65 1))]) (wt := [(kX10 aTr aLa aPa aGe gL gR gR gL tgo tca tki tso tbe twe tle tan tco ten), (kX4 aLa vLa l4 a4 n4), (kAI vLa cI 24 f4), (kX3 gL u0 u1 (g_65 0) (g_65 1)), (kX3 gR v0 v1 (g_77 0) (g_57 1))]) hP hD hC [0, 1, 2, 4] rfl (by decide +kernel) (by decide +kernel) hk1 hFc hP1 hD1 rfl
                  clear hP hD hPc hDc hFc hC hP1 hD1 hK1 hz1 hk1 hvm ht
                  obtain ⟨hP, hD⟩ := hJ
                  generalize H1 = H at hP hS ⊢
                  try dsimp only at hw
                  have c_82 := hw
                  refine lv_aload_n hx₀ hb dX10_flyGeese_147 rfl (lv_at hl 3 rfl) ?_
                  refine va_get (D := (dC, dI)) (ci := 9) (v := .ref gL) (C := RX10) (T := TX10) (N := 17) hx₀ hb hts inlX10 hown hK hP 0 rfl rfl 6 (by decide) (hts (.fieldLink RX10 24 "BittenStick$Trip" "right" "LBittenStick$Goose;") wd_88) (fun _ h9 => h9) rfl dX10_flyGeese_148 ?_
                  obtain ⟨hPc, hDc, hFc, hC⟩ := k_cw (wc := [(kX3 gL u0 u1 (g_65 0) (g_65 1))]) hP hD hS hA [3] (by decide +kernel) rfl
                  refine va_callv (va_runV (As := []) (rest := []) ⟨hx₀, hb, hml, hown, hts⟩ (j_gRest l dC dI cI cJ cQ H.size gL u0 u1 (g_65 0) (g_65 1)) (cwV 0 hts (kGV wd_487 wd_484 wd_485 wd_486 wd_84) rfl rfl rfl (by decide +kernel) ⟨Nat.le_of_ble_eq_true rfl, Nat.le_of_ble_eq_true rfl⟩) (k_preV3 (q0 := 0) hK hPc hDc hN rfl) rfl rfl hl.1 rfl (lv_room (Nat.le_of_ble_eq_true rfl)) dX10_flyGeese_151 ⟨by decide +kernel, by decide +kernel⟩) hS (fun q _ h => hFc q h) hFc (fun u₀ t₀ H1 locs ht hvm hw hB hz1 hk1 hS => ?_)
                  obtain ⟨g_84, ga_85, gl_86, gb_87, gp_88⟩ := u₀
                  obtain ⟨hP1, hK1, hD1⟩ := hB
                  rw [ht] at hP1
                  have hJ := k_jn (wr := [(kX10 aTr aLa aPa aGe gL gR gR gL tgo tca tki tso tbe twe tle tan tco ten), (kX4 aLa vLa l4 a4 n4), (kAI vLa cI 24 f4), (kX3 gR v0 v1 (g_77 0) (g_57 1))]) (wt := [(kX10 aTr aLa aPa aGe gL gR gR gL tgo tca tki tso tbe twe tle tan tco ten), (kX4 aLa vLa l4 a4 n4), (kAI vLa cI 24 f4), (kX3 gR v0 v1 (g_77 0) (g_57 1)), (kX3 gL u0 u1 (g_84 0) (g_65 1))]) hP hD hC [0, 1, 2, 4] rfl (by decide +kernel) (by decide +kernel) hk1 hFc hP1 hD1 rfl
                  clear hP hD hPc hDc hFc hC hP1 hD1 hK1 hz1 hk1 hvm ht
                  obtain ⟨hP, hD⟩ := hJ
                  generalize H1 = H at hP hS ⊢
                  try dsimp only at hw
                  have c_89 := hw
                  refine lv_iinc (v := iz3 + 1) (lv' := [(3, .int (iz3 + 1)), (5, .ref gL), (4, .int (kAt 24 f4 iz3)), (0, .ref aTr), (1, .int la1), (2, .int ro)]) hx₀ hb dX10_flyGeese_154 hl (k := 2) rfl rfl (by decide) rfl (fun ls hl => ?_)
                  refine lv_goto (tgt := 32) hx₀ hb dX10_flyGeese_157 (by decide) ?_
                  exact ihz3 _ (lf_e_flyGeese_10 la1 iz3 jz3 hh0 hiz3_1 hjz3 c_4 c_75) (iz3 + 1) gR gL (g_84 0) (g_65 1) (g_77 0) (g_57 1) _ _ _ (absurd (c_6.symm.trans c_74) (by decide)) (lf_e_flyGeese_9 la1 iz3 jz3 hh0 hiz3_1 hjz3 c_4 c_75) rfl (hP.sub [0, 1, 2, 4, 3] rfl) (hD.sub [0, 1, 2, 4, 3] (by decide +kernel) rfl) hS (lv_sub hl [0, 3, 4, 5] rfl)
                · refine lv_iload_n hx₀ hb dX10_flyGeese_136 rfl (lv_at hl 5 rfl) ?_
                  refine lv_if_eq (tgt := 154) hx₀ hb dX10_flyGeese_137 (by decide) (fun c_90 => ?_) (fun c_90 => ?_)
                  · refine lv_iinc (v := iz3 + 1) (lv' := [(3, .int (iz3 + 1)), (5, .ref gL), (4, .int (kAt 24 f4 iz3)), (0, .ref aTr), (1, .int la1), (2, .int ro)]) hx₀ hb dX10_flyGeese_154 hl (k := 2) rfl rfl (by decide) rfl (fun ls hl => ?_)
                    refine lv_goto (tgt := 32) hx₀ hb dX10_flyGeese_157 (by decide) ?_
                    exact ihz3 _ (lf_e_flyGeese_14 la1 iz3 jz3 hh0 hiz3_1 hjz3 c_4 c_75) (iz3 + 1) gR gL (g_65 0) (g_65 1) (g_57 0) (g_57 1) _ _ _ (absurd (c_6.symm.trans c_74) (by decide)) (lf_e_flyGeese_13 la1 iz3 jz3 hh0 hiz3_1 hjz3 c_4 c_75) rfl (hP.sub [0, 1, 2, 4, 3] rfl) (hD.sub [0, 1, 2, 4, 3] (by decide +kernel) rfl) hS (lv_sub hl [0, 3, 4, 5] rfl)
                  · refine lv_aload_n hx₀ hb dX10_flyGeese_140 rfl (lv_at hl 3 rfl) ?_
                    refine va_get (D := (dC, dI)) (ci := 9) (v := .ref gR) (C := RX10) (T := TX10) (N := 17) hx₀ hb hts inlX10 hown hK hP 0 rfl rfl 5 (by decide) (hts (.fieldLink RX10 21 "BittenStick$Trip" "left" "LBittenStick$Goose;") wd_87) (fun _ h9 => h9) rfl dX10_flyGeese_141 ?_
                    obtain ⟨hPc, hDc, hFc, hC⟩ := k_cw (wc := [(kX3 gR v0 v1 (g_57 0) (g_57 1))]) hP hD hS hA [3] (by decide +kernel) rfl
                    refine va_callv (va_runV (As := []) (rest := []) ⟨hx₀, hb, hml, hown, hts⟩ (j_gRest l dC dI cI cJ cQ H.size gR v0 v1 (g_57 0) (g_57 1)) (cwV 0 hts (kGV wd_487 wd_484 wd_485 wd_486 wd_84) rfl rfl rfl (by decide +kernel) ⟨Nat.le_of_ble_eq_true rfl, Nat.le_of_ble_eq_true rfl⟩) (k_preV3 (q0 := 0) hK hPc hDc hN rfl) rfl rfl hl.1 rfl (lv_room (Nat.le_of_ble_eq_true rfl)) dX10_flyGeese_144 ⟨by decide +kernel, by decide +kernel⟩) hS (fun q _ h => hFc q h) hFc (fun u₀ t₀ H1 locs ht hvm hw hB hz1 hk1 hS => ?_)
                    obtain ⟨g_92, ga_93, gl_94, gb_95, gp_96⟩ := u₀
                    obtain ⟨hP1, hK1, hD1⟩ := hB
                    rw [ht] at hP1
                    have hJ := k_jn (wr := [(kX10 aTr aLa aPa aGe gL gR gR gL tgo tca tki tso tbe twe tle tan tco ten), (kX4 aLa vLa l4 a4 n4), (kAI vLa cI 24 f4), (kX3 gL u0 u1 (g_65 0) (g_65 1))]) (wt := [(kX10 aTr aLa aPa aGe gL gR gR gL tgo tca tki tso tbe twe tle tan tco ten), (kX4 aLa vLa l4 a4 n4), (kAI vLa cI 24 f4), (kX3 gL u0 u1 (g_65 0) (g_65 1)), (kX3 gR v0 v1 (g_92 0) (g_57 1))]) hP hD hC [0, 1, 2, 4] rfl (by decide +kernel) (by decide +kernel) hk1 hFc hP1 hD1 rfl
                    clear hP hD hPc hDc hFc hC hP1 hD1 hK1 hz1 hk1 hvm ht
                    obtain ⟨hP, hD⟩ := hJ
                    generalize H1 = H at hP hS ⊢
                    try dsimp only at hw
                    have c_97 := hw
                    refine lv_aload_n hx₀ hb dX10_flyGeese_147 rfl (lv_at hl 3 rfl) ?_
                    refine va_get (D := (dC, dI)) (ci := 9) (v := .ref gL) (C := RX10) (T := TX10) (N := 17) hx₀ hb hts inlX10 hown hK hP 0 rfl rfl 6 (by decide) (hts (.fieldLink RX10 24 "BittenStick$Trip" "right" "LBittenStick$Goose;") wd_88) (fun _ h9 => h9) rfl dX10_flyGeese_148 ?_
                    obtain ⟨hPc, hDc, hFc, hC⟩ := k_cw (wc := [(kX3 gL u0 u1 (g_65 0) (g_65 1))]) hP hD hS hA [3] (by decide +kernel) rfl
                    refine va_callv (va_runV (As := []) (rest := []) ⟨hx₀, hb, hml, hown, hts⟩ (j_gRest l dC dI cI cJ cQ H.size gL u0 u1 (g_65 0) (g_65 1)) (cwV 0 hts (kGV wd_487 wd_484 wd_485 wd_486 wd_84) rfl rfl rfl (by decide +kernel) ⟨Nat.le_of_ble_eq_true rfl, Nat.le_of_ble_eq_true rfl⟩) (k_preV3 (q0 := 0) hK hPc hDc hN rfl) rfl rfl hl.1 rfl (lv_room (Nat.le_of_ble_eq_true rfl)) dX10_flyGeese_151 ⟨by decide +kernel, by decide +kernel⟩) hS (fun q _ h => hFc q h) hFc (fun u₀ t₀ H1 locs ht hvm hw hB hz1 hk1 hS => ?_)
                    obtain ⟨g_99, ga_100, gl_101, gb_102, gp_103⟩ := u₀
                    obtain ⟨hP1, hK1, hD1⟩ := hB
                    rw [ht] at hP1
                    have hJ := k_jn (wr := [(kX10 aTr aLa aPa aGe gL gR gR gL tgo tca tki tso tbe twe tle tan tco ten), (kX4 aLa vLa l4 a4 n4), (kAI vLa cI 24 f4), (kX3 gR v0 v1 (g_92 0) (g_57 1))]) (wt := [(kX10 aTr aLa aPa aGe gL gR gR gL tgo tca tki tso tbe twe tle tan tco ten), (kX4 aLa vLa l4 a4 n4), (kAI vLa cI 24 f4), (kX3 gR v0 v1 (g_92 0) (g_57 1)), (kX3 gL u0 u1 (g_99 0) (g_65 1))]) hP hD hC [0, 1, 2, 4] rfl (by decide +kernel) (by decide +kernel) hk1 hFc hP1 hD1 rfl
                    clear hP hD hPc hDc hFc hC hP1 hD1 hK1 hz1 hk1 hvm ht
                    obtain ⟨hP, hD⟩ := hJ
                    generalize H1 = H at hP hS ⊢
                    try dsimp only at hw
                    have c_104 := hw
                    refine lv_iinc (v := iz3 + 1) (lv' := [(3, .int (iz3 + 1)), (5, .ref gL), (4, .int (kAt 24 f4 iz3)), (0, .ref aTr), (1, .int la1), (2, .int ro)]) hx₀ hb dX10_flyGeese_154 hl (k := 2) rfl rfl (by decide) rfl (fun ls hl => ?_)
                    refine lv_goto (tgt := 32) hx₀ hb dX10_flyGeese_157 (by decide) ?_
                    exact ihz3 _ (lf_e_flyGeese_14 la1 iz3 jz3 hh0 hiz3_1 hjz3 c_4 c_75) (iz3 + 1) gR gL (g_99 0) (g_65 1) (g_92 0) (g_57 1) _ _ _ (absurd (c_6.symm.trans c_74) (by decide)) (lf_e_flyGeese_13 la1 iz3 jz3 hh0 hiz3_1 hjz3 c_4 c_75) rfl (hP.sub [0, 1, 2, 4, 3] rfl) (hD.sub [0, 1, 2, 4, 3] (by decide +kernel) rfl) hS (lv_sub hl [0, 3, 4, 5] rfl)
            · refine lv_iload_n hx₀ hb dX10_flyGeese_122 rfl (lv_at hl 2 rfl) ?_
              obtain ⟨hP9, hD9⟩ := k_c2 (wc := [(kX10 aTr aLa aPa aGe gL gR gR gL tgo tca tki tso tbe twe tle tan tco ten), (kX3 gL u0 u1 (g_65 0) (g_65 1)), (kX3 gR v0 v1 (g_57 0) (g_57 1)), (kX4 aLa vLa l4 a4 n4), (kAI vLa cI 24 f4)]) hP hD [0, 4, 3, 1, 2] (by decide +kernel) rfl
              exact W.iret (v := iz3) hx₀ hb hr (fun t₀ ht hW => ⟨⟨iz3, (k_fn [(g_65 0), (g_65 1), (g_57 0), (g_57 1)], k_fa [], k_fl [], k_fL [], k_fp [gR, gL]), rfl, ⟨(kCt_fw hkz3.1 (lf_e_flyGeese_4 la1 iz3 jz3 hh0 hiz3_1 hjz3 c_4) c_6 c_62 c_70 (Or.inr (Int32.not_le.mp c_73))), (Or.inr ⟨rfl, rfl, kGz_fw hkz3.2 (lf_e_flyGeese_4 la1 iz3 jz3 hh0 hiz3_1 hjz3 c_4) c_6 c_62 c_63 c_70 c_71 (Or.inr (Int32.not_le.mp c_73))⟩)⟩, by rw [ht]; exact hP9, va_K.moved hW.alike hK, hD9⟩, hS.F ht⟩) hS.2.2 dX10_flyGeese_123
    · refine lv_iload_n hx₀ hb dX10_flyGeese_32 rfl (lv_at hl 0 rfl) ?_
      refine lv_iload_n hx₀ hb dX10_flyGeese_33 rfl (lv_at hl 2 rfl) ?_
      refine lv_icmp_gt (tgt := 160) hx₀ hb dX10_flyGeese_34 (by decide) (fun c_105 => ?_) (fun c_105 => ?_)
      · refine lv_iload_n hx₀ hb dX10_flyGeese_160 rfl (lv_at hl 2 rfl) ?_
        refine lv_iconst (v := 1) hx₀ hb dX10_flyGeese_161 (by decide +kernel) ?_
        refine lv_iadd hx₀ hb dX10_flyGeese_162 ?_
        obtain ⟨hP9, hD9⟩ := k_c2 (wc := [(kX10 aTr aLa aPa aGe gL gR gR gL tgo tca tki tso tbe twe tle tan tco ten), (kX3 gL u0 u1 w2z3 w3z3), (kX3 gR v0 v1 z2z3 z3z3), (kX4 aLa vLa l4 a4 n4), (kAI vLa cI 24 f4)]) hP hD [0, 3, 4, 1, 2] (by decide +kernel) rfl
        exact W.iret (v := la1 + 1) hx₀ hb hr (fun t₀ ht hW => ⟨⟨la1 + 1, (k_fn [w2z3, w3z3, z2z3, z3z3], k_fa [], k_fl [], k_fL [], k_fp [gR, gL]), rfl, ⟨(kCt_end hkz3.1 (lf_e_flyGeese_2 la1 iz3 jz3 hh0 hiz3_1 hjz3 c_105) (lf_e_flyGeese_3 la1 iz3 jz3 hh0 hiz3_1 hjz3 c_105)), (Or.inr ⟨rfl, rfl, kGz_end hkz3.2 (lf_e_flyGeese_2 la1 iz3 jz3 hh0 hiz3_1 hjz3 c_105)⟩)⟩, by rw [ht]; exact hP9, va_K.moved hW.alike hK, hD9⟩, hS.F ht⟩) hS.2.2 dX10_flyGeese_163
      · refine lv_aload_n hx₀ hb dX10_flyGeese_37 rfl (lv_at hl 1 rfl) ?_
        refine va_get (D := (dC, dI)) (ci := 9) (v := .ref aLa) (C := RX10) (T := TX10) (N := 17) hx₀ hb hts inlX10 hown hK hP 0 rfl rfl 0 (by decide) (hts (.fieldLink RX10 27 "BittenStick$Trip" "land" "LBittenStick$Land;") wd_89) (fun _ h9 => h9) rfl dX10_flyGeese_38 ?_
        refine lv_iload_n hx₀ hb dX10_flyGeese_41 rfl (lv_at hl 0 rfl) ?_
        obtain ⟨hPc, hDc, hFc, hC⟩ := k_cw (wc := [(kX4 aLa vLa l4 a4 n4), (kAI vLa cI 24 f4)]) hP hD hS hA [1, 2] (by decide +kernel) rfl
        refine va_calli (va_runU (As := [.int iz3]) (rest := []) ⟨hx₀, hb, hml, hown, hts⟩ (j_valueAt_X4 l dC dI cI cJ cQ H.size aLa iz3 vLa l4 a4 n4 f4) (va_cwU 1 hts (kGU wd_179 wd_478 wd_288 wd_289 wd_178 wd_57) rfl rfl rfl rfl (by decide +kernel) ⟨Nat.le_of_ble_eq_true rfl, Nat.le_of_ble_eq_true rfl⟩) (k_preV4 (q0 := 0) hK hPc hDc hN rfl) rfl rfl hl.1 rfl (lv_room (Nat.le_of_ble_eq_true rfl)) dX10_flyGeese_42 ⟨by decide +kernel, by decide +kernel⟩) hS (fun q _ h => hFc q h) hFc (fun r_106 u₀ t₀ H1 locs ht hvm hw hB hz1 hk1 hS => ?_)
        obtain ⟨hP1, hK1, hD1⟩ := hB
        rw [ht] at hP1
        have hJ := k_jn (wr := [(kX10 aTr aLa aPa aGe gL gR gR gL tgo tca tki tso tbe twe tle tan tco ten), (kX3 gL u0 u1 w2z3 w3z3), (kX3 gR v0 v1 z2z3 z3z3)]) (wt := [(kX10 aTr aLa aPa aGe gL gR gR gL tgo tca tki tso tbe twe tle tan tco ten), (kX3 gL u0 u1 w2z3 w3z3), (kX3 gR v0 v1 z2z3 z3z3), (kX4 aLa vLa l4 a4 n4), (kAI vLa cI 24 f4)]) hP hD hC [0, 3, 4] rfl (by decide +kernel) (by decide +kernel) hk1 hFc hP1 hD1 rfl
        clear hP hD hPc hDc hFc hC hP1 hD1 hK1 hz1 hk1 hvm ht
        obtain ⟨hP, hD⟩ := hJ
        generalize H1 = H at hP hS ⊢
        try dsimp only at hw
        refine k_topi (v := kAt 24 f4 iz3) hw ?_
        refine lv_istore (lv' := [(4, .int (kAt 24 f4 iz3)), (3, .int iz3), (0, .ref aTr), (1, .int la1), (2, .int ro)]) hx₀ hb dX10_flyGeese_45 hl (by decide) rfl (fun ls hl => ?_)
        refine lv_iload hx₀ hb dX10_flyGeese_47 (lv_at hl 0 rfl) ?_
        refine lv_bipush (v := 8) hx₀ hb dX10_flyGeese_49 (by decide +kernel) ?_
        refine lv_icmp_ne (tgt := 74) hx₀ hb dX10_flyGeese_51 (by decide) (fun c_107 => ?_) (fun c_107 => ?_)
        · refine lv_aload_n hx₀ hb dX10_flyGeese_74 rfl (lv_at hl 2 rfl) ?_
          refine va_get (D := (dC, dI)) (ci := 9) (v := .ref gR) (C := RX10) (T := TX10) (N := 17) hx₀ hb hts inlX10 hown hK hP 0 rfl rfl 5 (by decide) (hts (.fieldLink RX10 21 "BittenStick$Trip" "left" "LBittenStick$Goose;") wd_87) (fun _ h9 => h9) rfl dX10_flyGeese_75 ?_
          obtain ⟨hPc, hDc, hFc, hC⟩ := k_cw (wc := [(kX3 gR v0 v1 z2z3 z3z3)]) hP hD hS hA [2] (by decide +kernel) rfl
          refine va_callv (va_runV (As := []) (rest := []) ⟨hx₀, hb, hml, hown, hts⟩ (j_gFly l dC dI cI cJ cQ H.size gR v0 v1 z2z3 z3z3) (cwV 0 hts (kGV wd_482 wd_479 wd_480 wd_481 wd_84) rfl rfl rfl (by decide +kernel) ⟨Nat.le_of_ble_eq_true rfl, Nat.le_of_ble_eq_true rfl⟩) (k_preV3 (q0 := 0) hK hPc hDc hN rfl) rfl rfl hl.1 rfl (lv_room (Nat.le_of_ble_eq_true rfl)) dX10_flyGeese_78 ⟨by decide +kernel, by decide +kernel⟩) hS (fun q _ h => hFc q h) hFc (fun u₀ t₀ H1 locs ht hvm hw hB hz1 hk1 hS => ?_)
          obtain ⟨g_109, ga_110, gl_111, gb_112, gp_113⟩ := u₀
          obtain ⟨hP1, hK1, hD1⟩ := hB
          rw [ht] at hP1
          have hJ := k_jn (wr := [(kX10 aTr aLa aPa aGe gL gR gR gL tgo tca tki tso tbe twe tle tan tco ten), (kX3 gL u0 u1 w2z3 w3z3), (kX4 aLa vLa l4 a4 n4), (kAI vLa cI 24 f4)]) (wt := [(kX10 aTr aLa aPa aGe gL gR gR gL tgo tca tki tso tbe twe tle tan tco ten), (kX3 gL u0 u1 w2z3 w3z3), (kX4 aLa vLa l4 a4 n4), (kAI vLa cI 24 f4), (kX3 gR v0 v1 (g_109 0) (g_109 1))]) hP hD hC [0, 1, 3, 4] rfl (by decide +kernel) (by decide +kernel) hk1 hFc hP1 hD1 rfl
          clear hP hD hPc hDc hFc hC hP1 hD1 hK1 hz1 hk1 hvm ht
          obtain ⟨hP, hD⟩ := hJ
          generalize H1 = H at hP hS ⊢
          try dsimp only at hw
          obtain ⟨c_114, c_115⟩ := hw
          refine lv_aload_n hx₀ hb dX10_flyGeese_81 rfl (lv_at hl 2 rfl) ?_
          refine va_get (D := (dC, dI)) (ci := 9) (v := .ref gL) (C := RX10) (T := TX10) (N := 17) hx₀ hb hts inlX10 hown hK hP 0 rfl rfl 6 (by decide) (hts (.fieldLink RX10 24 "BittenStick$Trip" "right" "LBittenStick$Goose;") wd_88) (fun _ h9 => h9) rfl dX10_flyGeese_82 ?_
          obtain ⟨hPc, hDc, hFc, hC⟩ := k_cw (wc := [(kX3 gL u0 u1 w2z3 w3z3)]) hP hD hS hA [1] (by decide +kernel) rfl
          refine va_callv (va_runV (As := []) (rest := []) ⟨hx₀, hb, hml, hown, hts⟩ (j_gFly l dC dI cI cJ cQ H.size gL u0 u1 w2z3 w3z3) (cwV 0 hts (kGV wd_482 wd_479 wd_480 wd_481 wd_84) rfl rfl rfl (by decide +kernel) ⟨Nat.le_of_ble_eq_true rfl, Nat.le_of_ble_eq_true rfl⟩) (k_preV3 (q0 := 0) hK hPc hDc hN rfl) rfl rfl hl.1 rfl (lv_room (Nat.le_of_ble_eq_true rfl)) dX10_flyGeese_85 ⟨by decide +kernel, by decide +kernel⟩) hS (fun q _ h => hFc q h) hFc (fun u₀ t₀ H1 locs ht hvm hw hB hz1 hk1 hS => ?_)
          obtain ⟨g_117, ga_118, gl_119, gb_120, gp_121⟩ := u₀
          obtain ⟨hP1, hK1, hD1⟩ := hB
          rw [ht] at hP1
          have hJ := k_jn (wr := [(kX10 aTr aLa aPa aGe gL gR gR gL tgo tca tki tso tbe twe tle tan tco ten), (kX4 aLa vLa l4 a4 n4), (kAI vLa cI 24 f4), (kX3 gR v0 v1 (g_109 0) (g_109 1))]) (wt := [(kX10 aTr aLa aPa aGe gL gR gR gL tgo tca tki tso tbe twe tle tan tco ten), (kX4 aLa vLa l4 a4 n4), (kAI vLa cI 24 f4), (kX3 gR v0 v1 (g_109 0) (g_109 1)), (kX3 gL u0 u1 (g_117 0) (g_117 1))]) hP hD hC [0, 2, 3, 4] rfl (by decide +kernel) (by decide +kernel) hk1 hFc hP1 hD1 rfl
          clear hP hD hPc hDc hFc hC hP1 hD1 hK1 hz1 hk1 hvm ht
          obtain ⟨hP, hD⟩ := hJ
          generalize H1 = H at hP hS ⊢
          try dsimp only at hw
          obtain ⟨c_122, c_123⟩ := hw
          refine lv_aload_n hx₀ hb dX10_flyGeese_88 rfl (lv_at hl 2 rfl) ?_
          refine va_get (D := (dC, dI)) (ci := 9) (v := .ref gR) (C := RX10) (T := TX10) (N := 17) hx₀ hb hts inlX10 hown hK hP 0 rfl rfl 5 (by decide) (hts (.fieldLink RX10 21 "BittenStick$Trip" "left" "LBittenStick$Goose;") wd_87) (fun _ h9 => h9) rfl dX10_flyGeese_89 ?_
          refine va_get (D := (dC, dI)) (ci := 3) (v := .int (g_109 0)) (C := RX3) (T := TX3) (N := 4) hx₀ hb hts inlX3 hown hK hP 3 rfl rfl 2 (by decide) (hts (.fieldLink RX10 97 "BittenStick$Goose" "strong" "I") wd_470) (fun _ h9 => h9) rfl dX10_flyGeese_92 ?_
          refine lv_aload_n hx₀ hb dX10_flyGeese_95 rfl (lv_at hl 2 rfl) ?_
          refine va_get (D := (dC, dI)) (ci := 9) (v := .int twe) (C := RX10) (T := TX10) (N := 17) hx₀ hb hts inlX10 hown hK hP 0 rfl rfl 12 (by decide) (hts (.fieldLink RX10 69 "BittenStick$Trip" "weight" "I") wd_458) (fun _ h9 => h9) rfl dX10_flyGeese_96 ?_
          refine lv_iconst (v := 1) hx₀ hb dX10_flyGeese_99 (by decide +kernel) ?_
          refine lv_iadd hx₀ hb dX10_flyGeese_100 ?_
          refine lv_iconst (v := 2) hx₀ hb dX10_flyGeese_101 (by decide +kernel) ?_
          refine lv_idiv hx₀ hb dX10_flyGeese_102 (by decide +kernel) ?_
          refine lv_icmp_lt (tgt := 122) hx₀ hb dX10_flyGeese_103 (by decide) (fun c_124 => ?_) (fun c_124 => ?_)
          · refine lv_iload_n hx₀ hb dX10_flyGeese_122 rfl (lv_at hl 1 rfl) ?_
            obtain ⟨hP9, hD9⟩ := k_c2 (wc := [(kX10 aTr aLa aPa aGe gL gR gR gL tgo tca tki tso tbe twe tle tan tco ten), (kX3 gL u0 u1 (g_117 0) (g_117 1)), (kX3 gR v0 v1 (g_109 0) (g_109 1)), (kX4 aLa vLa l4 a4 n4), (kAI vLa cI 24 f4)]) hP hD [0, 4, 3, 1, 2] (by decide +kernel) rfl
            exact W.iret (v := iz3) hx₀ hb hr (fun t₀ ht hW => ⟨⟨iz3, (k_fn [(g_117 0), (g_117 1), (g_109 0), (g_109 1)], k_fa [], k_fl [], k_fL [], k_fp [gR, gL]), rfl, ⟨(kCt_f hkz3.1 (lf_e_flyGeese_4 la1 iz3 jz3 hh0 hiz3_1 hjz3 c_105) c_107 c_114 c_122 (Or.inl c_124)), (Or.inr ⟨rfl, rfl, kGz_f hkz3.2 (lf_e_flyGeese_4 la1 iz3 jz3 hh0 hiz3_1 hjz3 c_105) c_107 c_114 c_115 c_122 c_123 (Or.inl c_124)⟩)⟩, by rw [ht]; exact hP9, va_K.moved hW.alike hK, hD9⟩, hS.F ht⟩) hS.2.2 dX10_flyGeese_123
          · refine lv_aload_n hx₀ hb dX10_flyGeese_106 rfl (lv_at hl 2 rfl) ?_
            refine va_get (D := (dC, dI)) (ci := 9) (v := .ref gL) (C := RX10) (T := TX10) (N := 17) hx₀ hb hts inlX10 hown hK hP 0 rfl rfl 6 (by decide) (hts (.fieldLink RX10 24 "BittenStick$Trip" "right" "LBittenStick$Goose;") wd_88) (fun _ h9 => h9) rfl dX10_flyGeese_107 ?_
            refine va_get (D := (dC, dI)) (ci := 3) (v := .int (g_117 0)) (C := RX3) (T := TX3) (N := 4) hx₀ hb hts inlX3 hown hK hP 4 rfl rfl 2 (by decide) (hts (.fieldLink RX10 97 "BittenStick$Goose" "strong" "I") wd_470) (fun _ h9 => h9) rfl dX10_flyGeese_110 ?_
            refine lv_aload_n hx₀ hb dX10_flyGeese_113 rfl (lv_at hl 2 rfl) ?_
            refine va_get (D := (dC, dI)) (ci := 9) (v := .int twe) (C := RX10) (T := TX10) (N := 17) hx₀ hb hts inlX10 hown hK hP 0 rfl rfl 12 (by decide) (hts (.fieldLink RX10 69 "BittenStick$Trip" "weight" "I") wd_458) (fun _ h9 => h9) rfl dX10_flyGeese_114 ?_
            refine lv_iconst (v := 2) hx₀ hb dX10_flyGeese_117 (by decide +kernel) ?_
            refine lv_idiv hx₀ hb dX10_flyGeese_118 (by decide +kernel) ?_
            refine lv_icmp_ge (tgt := 124) hx₀ hb dX10_flyGeese_119 (by decide) (fun c_125 => ?_) (fun c_125 => ?_)
            · refine lv_iload hx₀ hb dX10_flyGeese_124 (lv_at hl 0 rfl) ?_
              refine lv_bipush (v := 7) hx₀ hb dX10_flyGeese_126 (by decide +kernel) ?_
              refine lv_icmp_ne (tgt := 154) hx₀ hb dX10_flyGeese_128 (by decide) (fun c_126 => ?_) (fun c_126 => ?_)
              · refine lv_iinc (v := iz3 + 1) (lv' := [(3, .int (iz3 + 1)), (4, .int (kAt 24 f4 iz3)), (0, .ref aTr), (1, .int la1), (2, .int ro)]) hx₀ hb dX10_flyGeese_154 hl (k := 1) rfl rfl (by decide) rfl (fun ls hl => ?_)
                refine lv_goto (tgt := 32) hx₀ hb dX10_flyGeese_157 (by decide) ?_
                exact ihz3 _ (lf_e_flyGeese_6 la1 iz3 jz3 hh0 hiz3_1 hjz3 c_105) (iz3 + 1) gR gL (g_117 0) (g_117 1) (g_109 0) (g_109 1) _ _ _ (Or.inr ⟨rfl, rfl, kCt_o hkz3.1 (lf_e_flyGeese_4 la1 iz3 jz3 hh0 hiz3_1 hjz3 c_105) c_107 c_126 c_114 c_115 c_122 c_123 c_124 (Int32.not_lt.mpr c_125), kGz_o hkz3.2 (lf_e_flyGeese_4 la1 iz3 jz3 hh0 hiz3_1 hjz3 c_105) c_107 c_126 c_114 c_115 c_122 c_123 c_124 (Int32.not_lt.mpr c_125)⟩) (lf_e_flyGeese_5 la1 iz3 jz3 hh0 hiz3_1 hjz3 c_105) rfl (hP.sub [0, 1, 2, 4, 3] rfl) (hD.sub [0, 1, 2, 4, 3] (by decide +kernel) rfl) hS (lv_sub hl [0, 2, 3, 4] rfl)
              · refine lv_iload_n hx₀ hb dX10_flyGeese_131 rfl (lv_at hl 1 rfl) ?_
                refine lv_iload_n hx₀ hb dX10_flyGeese_132 rfl (lv_at hl 3 rfl) ?_
                refine lv_icmp_lt (tgt := 140) hx₀ hb dX10_flyGeese_133 (by decide) (fun c_127 => ?_) (fun c_127 => ?_)
                · refine lv_aload_n hx₀ hb dX10_flyGeese_140 rfl (lv_at hl 2 rfl) ?_
                  refine va_get (D := (dC, dI)) (ci := 9) (v := .ref gR) (C := RX10) (T := TX10) (N := 17) hx₀ hb hts inlX10 hown hK hP 0 rfl rfl 5 (by decide) (hts (.fieldLink RX10 21 "BittenStick$Trip" "left" "LBittenStick$Goose;") wd_87) (fun _ h9 => h9) rfl dX10_flyGeese_141 ?_
                  obtain ⟨hPc, hDc, hFc, hC⟩ := k_cw (wc := [(kX3 gR v0 v1 (g_109 0) (g_109 1))]) hP hD hS hA [3] (by decide +kernel) rfl
                  refine va_callv (va_runV (As := []) (rest := []) ⟨hx₀, hb, hml, hown, hts⟩ (j_gRest l dC dI cI cJ cQ H.size gR v0 v1 (g_109 0) (g_109 1)) (cwV 0 hts (kGV wd_487 wd_484 wd_485 wd_486 wd_84) rfl rfl rfl (by decide +kernel) ⟨Nat.le_of_ble_eq_true rfl, Nat.le_of_ble_eq_true rfl⟩) (k_preV3 (q0 := 0) hK hPc hDc hN rfl) rfl rfl hl.1 rfl (lv_room (Nat.le_of_ble_eq_true rfl)) dX10_flyGeese_144 ⟨by decide +kernel, by decide +kernel⟩) hS (fun q _ h => hFc q h) hFc (fun u₀ t₀ H1 locs ht hvm hw hB hz1 hk1 hS => ?_)
                  obtain ⟨g_129, ga_130, gl_131, gb_132, gp_133⟩ := u₀
                  obtain ⟨hP1, hK1, hD1⟩ := hB
                  rw [ht] at hP1
                  have hJ := k_jn (wr := [(kX10 aTr aLa aPa aGe gL gR gR gL tgo tca tki tso tbe twe tle tan tco ten), (kX4 aLa vLa l4 a4 n4), (kAI vLa cI 24 f4), (kX3 gL u0 u1 (g_117 0) (g_117 1))]) (wt := [(kX10 aTr aLa aPa aGe gL gR gR gL tgo tca tki tso tbe twe tle tan tco ten), (kX4 aLa vLa l4 a4 n4), (kAI vLa cI 24 f4), (kX3 gL u0 u1 (g_117 0) (g_117 1)), (kX3 gR v0 v1 (g_129 0) (g_109 1))]) hP hD hC [0, 1, 2, 4] rfl (by decide +kernel) (by decide +kernel) hk1 hFc hP1 hD1 rfl
                  clear hP hD hPc hDc hFc hC hP1 hD1 hK1 hz1 hk1 hvm ht
                  obtain ⟨hP, hD⟩ := hJ
                  generalize H1 = H at hP hS ⊢
                  try dsimp only at hw
                  have c_134 := hw
                  refine lv_aload_n hx₀ hb dX10_flyGeese_147 rfl (lv_at hl 2 rfl) ?_
                  refine va_get (D := (dC, dI)) (ci := 9) (v := .ref gL) (C := RX10) (T := TX10) (N := 17) hx₀ hb hts inlX10 hown hK hP 0 rfl rfl 6 (by decide) (hts (.fieldLink RX10 24 "BittenStick$Trip" "right" "LBittenStick$Goose;") wd_88) (fun _ h9 => h9) rfl dX10_flyGeese_148 ?_
                  obtain ⟨hPc, hDc, hFc, hC⟩ := k_cw (wc := [(kX3 gL u0 u1 (g_117 0) (g_117 1))]) hP hD hS hA [3] (by decide +kernel) rfl
                  refine va_callv (va_runV (As := []) (rest := []) ⟨hx₀, hb, hml, hown, hts⟩ (j_gRest l dC dI cI cJ cQ H.size gL u0 u1 (g_117 0) (g_117 1)) (cwV 0 hts (kGV wd_487 wd_484 wd_485 wd_486 wd_84) rfl rfl rfl (by decide +kernel) ⟨Nat.le_of_ble_eq_true rfl, Nat.le_of_ble_eq_true rfl⟩) (k_preV3 (q0 := 0) hK hPc hDc hN rfl) rfl rfl hl.1 rfl (lv_room (Nat.le_of_ble_eq_true rfl)) dX10_flyGeese_151 ⟨by decide +kernel, by decide +kernel⟩) hS (fun q _ h => hFc q h) hFc (fun u₀ t₀ H1 locs ht hvm hw hB hz1 hk1 hS => ?_)
                  obtain ⟨g_136, ga_137, gl_138, gb_139, gp_140⟩ := u₀
                  obtain ⟨hP1, hK1, hD1⟩ := hB
                  rw [ht] at hP1
                  have hJ := k_jn (wr := [(kX10 aTr aLa aPa aGe gL gR gR gL tgo tca tki tso tbe twe tle tan tco ten), (kX4 aLa vLa l4 a4 n4), (kAI vLa cI 24 f4), (kX3 gR v0 v1 (g_129 0) (g_109 1))]) (wt := [(kX10 aTr aLa aPa aGe gL gR gR gL tgo tca tki tso tbe twe tle tan tco ten), (kX4 aLa vLa l4 a4 n4), (kAI vLa cI 24 f4), (kX3 gR v0 v1 (g_129 0) (g_109 1)), (kX3 gL u0 u1 (g_136 0) (g_117 1))]) hP hD hC [0, 1, 2, 4] rfl (by decide +kernel) (by decide +kernel) hk1 hFc hP1 hD1 rfl
                  clear hP hD hPc hDc hFc hC hP1 hD1 hK1 hz1 hk1 hvm ht
                  obtain ⟨hP, hD⟩ := hJ
                  generalize H1 = H at hP hS ⊢
                  try dsimp only at hw
                  have c_141 := hw
                  refine lv_iinc (v := iz3 + 1) (lv' := [(3, .int (iz3 + 1)), (4, .int (kAt 24 f4 iz3)), (0, .ref aTr), (1, .int la1), (2, .int ro)]) hx₀ hb dX10_flyGeese_154 hl (k := 1) rfl rfl (by decide) rfl (fun ls hl => ?_)
                  refine lv_goto (tgt := 32) hx₀ hb dX10_flyGeese_157 (by decide) ?_
                  exact ihz3 _ (lf_e_flyGeese_10 la1 iz3 jz3 hh0 hiz3_1 hjz3 c_105 c_127) (iz3 + 1) gR gL (g_136 0) (g_117 1) (g_129 0) (g_109 1) _ _ _ (Or.inr ⟨rfl, rfl, kCt_i hkz3.1 (lf_e_flyGeese_7 la1 iz3 jz3 hh0 hiz3_1 hjz3 c_105 c_127) c_126 c_114 c_115 c_122 c_123 c_124 (Int32.not_lt.mpr c_125) c_134 c_141, kGz_i hkz3.2 (lf_e_flyGeese_7 la1 iz3 jz3 hh0 hiz3_1 hjz3 c_105 c_127) c_126 c_114 c_115 c_122 c_123 c_124 (Int32.not_lt.mpr c_125) c_134 c_141 (Or.inl (lf_e_flyGeese_8 la1 iz3 jz3 hh0 hiz3_1 hjz3 c_105 c_127))⟩) (lf_e_flyGeese_9 la1 iz3 jz3 hh0 hiz3_1 hjz3 c_105 c_127) rfl (hP.sub [0, 1, 2, 4, 3] rfl) (hD.sub [0, 1, 2, 4, 3] (by decide +kernel) rfl) hS (lv_sub hl [0, 2, 3, 4] rfl)
                · refine lv_iload_n hx₀ hb dX10_flyGeese_136 rfl (lv_at hl 4 rfl) ?_
                  refine lv_if_eq (tgt := 154) hx₀ hb dX10_flyGeese_137 (by decide) (fun c_142 => ?_) (fun c_142 => ?_)
                  · refine lv_iinc (v := iz3 + 1) (lv' := [(3, .int (iz3 + 1)), (4, .int (kAt 24 f4 iz3)), (0, .ref aTr), (1, .int la1), (2, .int ro)]) hx₀ hb dX10_flyGeese_154 hl (k := 1) rfl rfl (by decide) rfl (fun ls hl => ?_)
                    refine lv_goto (tgt := 32) hx₀ hb dX10_flyGeese_157 (by decide) ?_
                    exact ihz3 _ (lf_e_flyGeese_14 la1 iz3 jz3 hh0 hiz3_1 hjz3 c_105 c_127) (iz3 + 1) gR gL (g_117 0) (g_117 1) (g_109 0) (g_109 1) _ _ _ (Or.inr ⟨rfl, rfl, kCt_l hkz3.1 (lf_e_flyGeese_11 la1 iz3 jz3 hh0 hiz3_1 hjz3 c_105 c_127) c_126 c_114 c_122 c_124 (Int32.not_lt.mpr c_125) (lf_e_flyGeese_12 la1 iz3 jz3 hh0 hiz3_1 hjz3 c_105 c_127), kGz_l hkz3.2 (lf_e_flyGeese_11 la1 iz3 jz3 hh0 hiz3_1 hjz3 c_105 c_127) c_126 c_114 c_115 c_122 c_123 c_124 (Int32.not_lt.mpr c_125) (lf_e_flyGeese_12 la1 iz3 jz3 hh0 hiz3_1 hjz3 c_105 c_127) c_142⟩) (lf_e_flyGeese_13 la1 iz3 jz3 hh0 hiz3_1 hjz3 c_105 c_127) rfl (hP.sub [0, 1, 2, 4, 3] rfl) (hD.sub [0, 1, 2, 4, 3] (by decide +kernel) rfl) hS (lv_sub hl [0, 2, 3, 4] rfl)
                  · refine lv_aload_n hx₀ hb dX10_flyGeese_140 rfl (lv_at hl 2 rfl) ?_
                    refine va_get (D := (dC, dI)) (ci := 9) (v := .ref gR) (C := RX10) (T := TX10) (N := 17) hx₀ hb hts inlX10 hown hK hP 0 rfl rfl 5 (by decide) (hts (.fieldLink RX10 21 "BittenStick$Trip" "left" "LBittenStick$Goose;") wd_87) (fun _ h9 => h9) rfl dX10_flyGeese_141 ?_
                    obtain ⟨hPc, hDc, hFc, hC⟩ := k_cw (wc := [(kX3 gR v0 v1 (g_109 0) (g_109 1))]) hP hD hS hA [3] (by decide +kernel) rfl
                    refine va_callv (va_runV (As := []) (rest := []) ⟨hx₀, hb, hml, hown, hts⟩ (j_gRest l dC dI cI cJ cQ H.size gR v0 v1 (g_109 0) (g_109 1)) (cwV 0 hts (kGV wd_487 wd_484 wd_485 wd_486 wd_84) rfl rfl rfl (by decide +kernel) ⟨Nat.le_of_ble_eq_true rfl, Nat.le_of_ble_eq_true rfl⟩) (k_preV3 (q0 := 0) hK hPc hDc hN rfl) rfl rfl hl.1 rfl (lv_room (Nat.le_of_ble_eq_true rfl)) dX10_flyGeese_144 ⟨by decide +kernel, by decide +kernel⟩) hS (fun q _ h => hFc q h) hFc (fun u₀ t₀ H1 locs ht hvm hw hB hz1 hk1 hS => ?_)
                    obtain ⟨g_144, ga_145, gl_146, gb_147, gp_148⟩ := u₀
                    obtain ⟨hP1, hK1, hD1⟩ := hB
                    rw [ht] at hP1
                    have hJ := k_jn (wr := [(kX10 aTr aLa aPa aGe gL gR gR gL tgo tca tki tso tbe twe tle tan tco ten), (kX4 aLa vLa l4 a4 n4), (kAI vLa cI 24 f4), (kX3 gL u0 u1 (g_117 0) (g_117 1))]) (wt := [(kX10 aTr aLa aPa aGe gL gR gR gL tgo tca tki tso tbe twe tle tan tco ten), (kX4 aLa vLa l4 a4 n4), (kAI vLa cI 24 f4), (kX3 gL u0 u1 (g_117 0) (g_117 1)), (kX3 gR v0 v1 (g_144 0) (g_109 1))]) hP hD hC [0, 1, 2, 4] rfl (by decide +kernel) (by decide +kernel) hk1 hFc hP1 hD1 rfl
                    clear hP hD hPc hDc hFc hC hP1 hD1 hK1 hz1 hk1 hvm ht
                    obtain ⟨hP, hD⟩ := hJ
                    generalize H1 = H at hP hS ⊢
                    try dsimp only at hw
                    have c_149 := hw
                    refine lv_aload_n hx₀ hb dX10_flyGeese_147 rfl (lv_at hl 2 rfl) ?_
                    refine va_get (D := (dC, dI)) (ci := 9) (v := .ref gL) (C := RX10) (T := TX10) (N := 17) hx₀ hb hts inlX10 hown hK hP 0 rfl rfl 6 (by decide) (hts (.fieldLink RX10 24 "BittenStick$Trip" "right" "LBittenStick$Goose;") wd_88) (fun _ h9 => h9) rfl dX10_flyGeese_148 ?_
                    obtain ⟨hPc, hDc, hFc, hC⟩ := k_cw (wc := [(kX3 gL u0 u1 (g_117 0) (g_117 1))]) hP hD hS hA [3] (by decide +kernel) rfl
                    refine va_callv (va_runV (As := []) (rest := []) ⟨hx₀, hb, hml, hown, hts⟩ (j_gRest l dC dI cI cJ cQ H.size gL u0 u1 (g_117 0) (g_117 1)) (cwV 0 hts (kGV wd_487 wd_484 wd_485 wd_486 wd_84) rfl rfl rfl (by decide +kernel) ⟨Nat.le_of_ble_eq_true rfl, Nat.le_of_ble_eq_true rfl⟩) (k_preV3 (q0 := 0) hK hPc hDc hN rfl) rfl rfl hl.1 rfl (lv_room (Nat.le_of_ble_eq_true rfl)) dX10_flyGeese_151 ⟨by decide +kernel, by decide +kernel⟩) hS (fun q _ h => hFc q h) hFc (fun u₀ t₀ H1 locs ht hvm hw hB hz1 hk1 hS => ?_)
                    obtain ⟨g_151, ga_152, gl_153, gb_154, gp_155⟩ := u₀
                    obtain ⟨hP1, hK1, hD1⟩ := hB
                    rw [ht] at hP1
                    have hJ := k_jn (wr := [(kX10 aTr aLa aPa aGe gL gR gR gL tgo tca tki tso tbe twe tle tan tco ten), (kX4 aLa vLa l4 a4 n4), (kAI vLa cI 24 f4), (kX3 gR v0 v1 (g_144 0) (g_109 1))]) (wt := [(kX10 aTr aLa aPa aGe gL gR gR gL tgo tca tki tso tbe twe tle tan tco ten), (kX4 aLa vLa l4 a4 n4), (kAI vLa cI 24 f4), (kX3 gR v0 v1 (g_144 0) (g_109 1)), (kX3 gL u0 u1 (g_151 0) (g_117 1))]) hP hD hC [0, 1, 2, 4] rfl (by decide +kernel) (by decide +kernel) hk1 hFc hP1 hD1 rfl
                    clear hP hD hPc hDc hFc hC hP1 hD1 hK1 hz1 hk1 hvm ht
                    obtain ⟨hP, hD⟩ := hJ
                    generalize H1 = H at hP hS ⊢
                    try dsimp only at hw
                    have c_156 := hw
                    refine lv_iinc (v := iz3 + 1) (lv' := [(3, .int (iz3 + 1)), (4, .int (kAt 24 f4 iz3)), (0, .ref aTr), (1, .int la1), (2, .int ro)]) hx₀ hb dX10_flyGeese_154 hl (k := 1) rfl rfl (by decide) rfl (fun ls hl => ?_)
                    refine lv_goto (tgt := 32) hx₀ hb dX10_flyGeese_157 (by decide) ?_
                    exact ihz3 _ (lf_e_flyGeese_14 la1 iz3 jz3 hh0 hiz3_1 hjz3 c_105 c_127) (iz3 + 1) gR gL (g_151 0) (g_117 1) (g_144 0) (g_109 1) _ _ _ (Or.inr ⟨rfl, rfl, kCt_i hkz3.1 (lf_e_flyGeese_11 la1 iz3 jz3 hh0 hiz3_1 hjz3 c_105 c_127) c_126 c_114 c_115 c_122 c_123 c_124 (Int32.not_lt.mpr c_125) c_149 c_156, kGz_i hkz3.2 (lf_e_flyGeese_11 la1 iz3 jz3 hh0 hiz3_1 hjz3 c_105 c_127) c_126 c_114 c_115 c_122 c_123 c_124 (Int32.not_lt.mpr c_125) c_149 c_156 (Or.inr c_142)⟩) (lf_e_flyGeese_13 la1 iz3 jz3 hh0 hiz3_1 hjz3 c_105 c_127) rfl (hP.sub [0, 1, 2, 4, 3] rfl) (hD.sub [0, 1, 2, 4, 3] (by decide +kernel) rfl) hS (lv_sub hl [0, 2, 3, 4] rfl)
            · refine lv_iload_n hx₀ hb dX10_flyGeese_122 rfl (lv_at hl 1 rfl) ?_
              obtain ⟨hP9, hD9⟩ := k_c2 (wc := [(kX10 aTr aLa aPa aGe gL gR gR gL tgo tca tki tso tbe twe tle tan tco ten), (kX3 gL u0 u1 (g_117 0) (g_117 1)), (kX3 gR v0 v1 (g_109 0) (g_109 1)), (kX4 aLa vLa l4 a4 n4), (kAI vLa cI 24 f4)]) hP hD [0, 4, 3, 1, 2] (by decide +kernel) rfl
              exact W.iret (v := iz3) hx₀ hb hr (fun t₀ ht hW => ⟨⟨iz3, (k_fn [(g_117 0), (g_117 1), (g_109 0), (g_109 1)], k_fa [], k_fl [], k_fL [], k_fp [gR, gL]), rfl, ⟨(kCt_f hkz3.1 (lf_e_flyGeese_4 la1 iz3 jz3 hh0 hiz3_1 hjz3 c_105) c_107 c_114 c_122 (Or.inr (Int32.not_le.mp c_125))), (Or.inr ⟨rfl, rfl, kGz_f hkz3.2 (lf_e_flyGeese_4 la1 iz3 jz3 hh0 hiz3_1 hjz3 c_105) c_107 c_114 c_115 c_122 c_123 (Or.inr (Int32.not_le.mp c_125))⟩)⟩, by rw [ht]; exact hP9, va_K.moved hW.alike hK, hD9⟩, hS.F ht⟩) hS.2.2 dX10_flyGeese_123
        · refine lv_aload_n hx₀ hb dX10_flyGeese_54 rfl (lv_at hl 2 rfl) ?_
          refine va_get (D := (dC, dI)) (ci := 9) (v := .ref gR) (C := RX10) (T := TX10) (N := 17) hx₀ hb hts inlX10 hown hK hP 0 rfl rfl 5 (by decide) (hts (.fieldLink RX10 21 "BittenStick$Trip" "left" "LBittenStick$Goose;") wd_87) (fun _ h9 => h9) rfl dX10_flyGeese_55 ?_
          refine lv_astore (lv' := [(5, .ref gR), (4, .int (kAt 24 f4 iz3)), (3, .int iz3), (0, .ref aTr), (1, .int la1), (2, .int ro)]) hx₀ hb dX10_flyGeese_58 hl (by decide) rfl (fun ls hl => ?_)
          refine lv_aload_n hx₀ hb dX10_flyGeese_60 rfl (lv_at hl 3 rfl) ?_
          refine lv_aload_n hx₀ hb dX10_flyGeese_61 rfl (lv_at hl 3 rfl) ?_
          refine va_get (D := (dC, dI)) (ci := 9) (v := .ref gL) (C := RX10) (T := TX10) (N := 17) hx₀ hb hts inlX10 hown hK hP 0 rfl rfl 6 (by decide) (hts (.fieldLink RX10 24 "BittenStick$Trip" "right" "LBittenStick$Goose;") wd_88) (fun _ h9 => h9) rfl dX10_flyGeese_62 ?_
          refine va_put (D := (dC, dI)) (ci := 9) (v := .ref gL) (ty := .object "BittenStick$Goose") (C := RX10) (T := TX10) (N := 17) hx₀ hb hts inlX10 tyX10 tyX10_ok nmX10 hown hK hP hD hS 0 rfl rfl 5 (by decide) (hts (.fieldLink RX10 21 "BittenStick$Trip" "left" "LBittenStick$Goose;") wd_87) (fun _ h9 => h9) rfl (by decide +kernel) rfl rfl (Nat.le_of_ble_eq_true rfl) dX10_flyGeese_65 ?_
          clear hP hD hS
          intro H locs hP hD hS
          replace hP := k_w2 (wt := [(kX10 aTr aLa aPa aGe gL gR gL gL tgo tca tki tso tbe twe tle tan tco ten), (kX3 gL u0 u1 w2z3 w3z3), (kX3 gR v0 v1 z2z3 z3z3), (kX4 aLa vLa l4 a4 n4), (kAI vLa cI 24 f4)]) hP hD rfl
          replace hD := hP.2
          replace hP := hP.1
          refine lv_aload_n hx₀ hb dX10_flyGeese_68 rfl (lv_at hl 3 rfl) ?_
          refine lv_aload hx₀ hb dX10_flyGeese_69 (lv_at hl 0 rfl) ?_
          refine va_put (D := (dC, dI)) (ci := 9) (v := .ref gR) (ty := .object "BittenStick$Goose") (C := RX10) (T := TX10) (N := 17) hx₀ hb hts inlX10 tyX10 tyX10_ok nmX10 hown hK hP hD hS 0 rfl rfl 6 (by decide) (hts (.fieldLink RX10 24 "BittenStick$Trip" "right" "LBittenStick$Goose;") wd_88) (fun _ h9 => h9) rfl (by decide +kernel) rfl rfl (Nat.le_of_ble_eq_true rfl) dX10_flyGeese_71 ?_
          clear hP hD hS
          intro H locs hP hD hS
          replace hP := k_w2 (wt := [(kX10 aTr aLa aPa aGe gL gR gL gR tgo tca tki tso tbe twe tle tan tco ten), (kX3 gL u0 u1 w2z3 w3z3), (kX3 gR v0 v1 z2z3 z3z3), (kX4 aLa vLa l4 a4 n4), (kAI vLa cI 24 f4)]) hP hD rfl
          replace hD := hP.2
          replace hP := hP.1
          refine lv_aload_n hx₀ hb dX10_flyGeese_74 rfl (lv_at hl 3 rfl) ?_
          refine va_get (D := (dC, dI)) (ci := 9) (v := .ref gL) (C := RX10) (T := TX10) (N := 17) hx₀ hb hts inlX10 hown hK hP 0 rfl rfl 5 (by decide) (hts (.fieldLink RX10 21 "BittenStick$Trip" "left" "LBittenStick$Goose;") wd_87) (fun _ h9 => h9) rfl dX10_flyGeese_75 ?_
          obtain ⟨hPc, hDc, hFc, hC⟩ := k_cw (wc := [(kX3 gL u0 u1 w2z3 w3z3)]) hP hD hS hA [1] (by decide +kernel) rfl
          refine va_callv (va_runV (As := []) (rest := []) ⟨hx₀, hb, hml, hown, hts⟩ (j_gFly l dC dI cI cJ cQ H.size gL u0 u1 w2z3 w3z3) (cwV 0 hts (kGV wd_482 wd_479 wd_480 wd_481 wd_84) rfl rfl rfl (by decide +kernel) ⟨Nat.le_of_ble_eq_true rfl, Nat.le_of_ble_eq_true rfl⟩) (k_preV3 (q0 := 0) hK hPc hDc hN rfl) rfl rfl hl.1 rfl (lv_room (Nat.le_of_ble_eq_true rfl)) dX10_flyGeese_78 ⟨by decide +kernel, by decide +kernel⟩) hS (fun q _ h => hFc q h) hFc (fun u₀ t₀ H1 locs ht hvm hw hB hz1 hk1 hS => ?_)
          obtain ⟨g_158, ga_159, gl_160, gb_161, gp_162⟩ := u₀
          obtain ⟨hP1, hK1, hD1⟩ := hB
          rw [ht] at hP1
          have hJ := k_jn (wr := [(kX10 aTr aLa aPa aGe gL gR gL gR tgo tca tki tso tbe twe tle tan tco ten), (kX3 gR v0 v1 z2z3 z3z3), (kX4 aLa vLa l4 a4 n4), (kAI vLa cI 24 f4)]) (wt := [(kX10 aTr aLa aPa aGe gL gR gL gR tgo tca tki tso tbe twe tle tan tco ten), (kX3 gR v0 v1 z2z3 z3z3), (kX4 aLa vLa l4 a4 n4), (kAI vLa cI 24 f4), (kX3 gL u0 u1 (g_158 0) (g_158 1))]) hP hD hC [0, 2, 3, 4] rfl (by decide +kernel) (by decide +kernel) hk1 hFc hP1 hD1 rfl
          clear hP hD hPc hDc hFc hC hP1 hD1 hK1 hz1 hk1 hvm ht
          obtain ⟨hP, hD⟩ := hJ
          generalize H1 = H at hP hS ⊢
          try dsimp only at hw
          obtain ⟨c_163, c_164⟩ := hw
          refine lv_aload_n hx₀ hb dX10_flyGeese_81 rfl (lv_at hl 3 rfl) ?_
          refine va_get (D := (dC, dI)) (ci := 9) (v := .ref gR) (C := RX10) (T := TX10) (N := 17) hx₀ hb hts inlX10 hown hK hP 0 rfl rfl 6 (by decide) (hts (.fieldLink RX10 24 "BittenStick$Trip" "right" "LBittenStick$Goose;") wd_88) (fun _ h9 => h9) rfl dX10_flyGeese_82 ?_
          obtain ⟨hPc, hDc, hFc, hC⟩ := k_cw (wc := [(kX3 gR v0 v1 z2z3 z3z3)]) hP hD hS hA [1] (by decide +kernel) rfl
          refine va_callv (va_runV (As := []) (rest := []) ⟨hx₀, hb, hml, hown, hts⟩ (j_gFly l dC dI cI cJ cQ H.size gR v0 v1 z2z3 z3z3) (cwV 0 hts (kGV wd_482 wd_479 wd_480 wd_481 wd_84) rfl rfl rfl (by decide +kernel) ⟨Nat.le_of_ble_eq_true rfl, Nat.le_of_ble_eq_true rfl⟩) (k_preV3 (q0 := 0) hK hPc hDc hN rfl) rfl rfl hl.1 rfl (lv_room (Nat.le_of_ble_eq_true rfl)) dX10_flyGeese_85 ⟨by decide +kernel, by decide +kernel⟩) hS (fun q _ h => hFc q h) hFc (fun u₀ t₀ H1 locs ht hvm hw hB hz1 hk1 hS => ?_)
          obtain ⟨g_166, ga_167, gl_168, gb_169, gp_170⟩ := u₀
          obtain ⟨hP1, hK1, hD1⟩ := hB
          rw [ht] at hP1
          have hJ := k_jn (wr := [(kX10 aTr aLa aPa aGe gL gR gL gR tgo tca tki tso tbe twe tle tan tco ten), (kX4 aLa vLa l4 a4 n4), (kAI vLa cI 24 f4), (kX3 gL u0 u1 (g_158 0) (g_158 1))]) (wt := [(kX10 aTr aLa aPa aGe gL gR gL gR tgo tca tki tso tbe twe tle tan tco ten), (kX4 aLa vLa l4 a4 n4), (kAI vLa cI 24 f4), (kX3 gL u0 u1 (g_158 0) (g_158 1)), (kX3 gR v0 v1 (g_166 0) (g_166 1))]) hP hD hC [0, 2, 3, 4] rfl (by decide +kernel) (by decide +kernel) hk1 hFc hP1 hD1 rfl
          clear hP hD hPc hDc hFc hC hP1 hD1 hK1 hz1 hk1 hvm ht
          obtain ⟨hP, hD⟩ := hJ
          generalize H1 = H at hP hS ⊢
          try dsimp only at hw
          obtain ⟨c_171, c_172⟩ := hw
          refine lv_aload_n hx₀ hb dX10_flyGeese_88 rfl (lv_at hl 3 rfl) ?_
          refine va_get (D := (dC, dI)) (ci := 9) (v := .ref gL) (C := RX10) (T := TX10) (N := 17) hx₀ hb hts inlX10 hown hK hP 0 rfl rfl 5 (by decide) (hts (.fieldLink RX10 21 "BittenStick$Trip" "left" "LBittenStick$Goose;") wd_87) (fun _ h9 => h9) rfl dX10_flyGeese_89 ?_
          refine va_get (D := (dC, dI)) (ci := 3) (v := .int (g_158 0)) (C := RX3) (T := TX3) (N := 4) hx₀ hb hts inlX3 hown hK hP 3 rfl rfl 2 (by decide) (hts (.fieldLink RX10 97 "BittenStick$Goose" "strong" "I") wd_470) (fun _ h9 => h9) rfl dX10_flyGeese_92 ?_
          refine lv_aload_n hx₀ hb dX10_flyGeese_95 rfl (lv_at hl 3 rfl) ?_
          refine va_get (D := (dC, dI)) (ci := 9) (v := .int twe) (C := RX10) (T := TX10) (N := 17) hx₀ hb hts inlX10 hown hK hP 0 rfl rfl 12 (by decide) (hts (.fieldLink RX10 69 "BittenStick$Trip" "weight" "I") wd_458) (fun _ h9 => h9) rfl dX10_flyGeese_96 ?_
          refine lv_iconst (v := 1) hx₀ hb dX10_flyGeese_99 (by decide +kernel) ?_
          refine lv_iadd hx₀ hb dX10_flyGeese_100 ?_
          refine lv_iconst (v := 2) hx₀ hb dX10_flyGeese_101 (by decide +kernel) ?_
          refine lv_idiv hx₀ hb dX10_flyGeese_102 (by decide +kernel) ?_
          refine lv_icmp_lt (tgt := 122) hx₀ hb dX10_flyGeese_103 (by decide) (fun c_173 => ?_) (fun c_173 => ?_)
          · refine lv_iload_n hx₀ hb dX10_flyGeese_122 rfl (lv_at hl 2 rfl) ?_
            obtain ⟨hP9, hD9⟩ := k_c2 (wc := [(kX10 aTr aLa aPa aGe gL gR gL gR tgo tca tki tso tbe twe tle tan tco ten), (kX3 gL u0 u1 (g_158 0) (g_158 1)), (kX3 gR v0 v1 (g_166 0) (g_166 1)), (kX4 aLa vLa l4 a4 n4), (kAI vLa cI 24 f4)]) hP hD [0, 3, 4, 1, 2] (by decide +kernel) rfl
            exact W.iret (v := iz3) hx₀ hb hr (fun t₀ ht hW => ⟨⟨iz3, (k_fn [(g_158 0), (g_158 1), (g_166 0), (g_166 1)], k_fa [], k_fl [], k_fL [], k_fp [gL, gR]), rfl, ⟨(kCt_fw hkz3.1 (lf_e_flyGeese_4 la1 iz3 jz3 hh0 hiz3_1 hjz3 c_105) c_107 c_163 c_171 (Or.inl c_173)), (Or.inl ⟨rfl, rfl, kGz_fw hkz3.2 (lf_e_flyGeese_4 la1 iz3 jz3 hh0 hiz3_1 hjz3 c_105) c_107 c_163 c_164 c_171 c_172 (Or.inl c_173)⟩)⟩, by rw [ht]; exact hP9, va_K.moved hW.alike hK, hD9⟩, hS.F ht⟩) hS.2.2 dX10_flyGeese_123
          · refine lv_aload_n hx₀ hb dX10_flyGeese_106 rfl (lv_at hl 3 rfl) ?_
            refine va_get (D := (dC, dI)) (ci := 9) (v := .ref gR) (C := RX10) (T := TX10) (N := 17) hx₀ hb hts inlX10 hown hK hP 0 rfl rfl 6 (by decide) (hts (.fieldLink RX10 24 "BittenStick$Trip" "right" "LBittenStick$Goose;") wd_88) (fun _ h9 => h9) rfl dX10_flyGeese_107 ?_
            refine va_get (D := (dC, dI)) (ci := 3) (v := .int (g_166 0)) (C := RX3) (T := TX3) (N := 4) hx₀ hb hts inlX3 hown hK hP 4 rfl rfl 2 (by decide) (hts (.fieldLink RX10 97 "BittenStick$Goose" "strong" "I") wd_470) (fun _ h9 => h9) rfl dX10_flyGeese_110 ?_
            refine lv_aload_n hx₀ hb dX10_flyGeese_113 rfl (lv_at hl 3 rfl) ?_
            refine va_get (D := (dC, dI)) (ci := 9) (v := .int twe) (C := RX10) (T := TX10) (N := 17) hx₀ hb hts inlX10 hown hK hP 0 rfl rfl 12 (by decide) (hts (.fieldLink RX10 69 "BittenStick$Trip" "weight" "I") wd_458) (fun _ h9 => h9) rfl dX10_flyGeese_114 ?_
            refine lv_iconst (v := 2) hx₀ hb dX10_flyGeese_117 (by decide +kernel) ?_
            refine lv_idiv hx₀ hb dX10_flyGeese_118 (by decide +kernel) ?_
            refine lv_icmp_ge (tgt := 124) hx₀ hb dX10_flyGeese_119 (by decide) (fun c_174 => ?_) (fun c_174 => ?_)
            · refine lv_iload hx₀ hb dX10_flyGeese_124 (lv_at hl 1 rfl) ?_
              refine lv_bipush (v := 7) hx₀ hb dX10_flyGeese_126 (by decide +kernel) ?_
              refine lv_icmp_ne (tgt := 154) hx₀ hb dX10_flyGeese_128 (by decide) (fun c_175 => ?_) (fun c_175 => ?_)
              · refine lv_iinc (v := iz3 + 1) (lv' := [(3, .int (iz3 + 1)), (5, .ref gR), (4, .int (kAt 24 f4 iz3)), (0, .ref aTr), (1, .int la1), (2, .int ro)]) hx₀ hb dX10_flyGeese_154 hl (k := 2) rfl rfl (by decide) rfl (fun ls hl => ?_)
                refine lv_goto (tgt := 32) hx₀ hb dX10_flyGeese_157 (by decide) ?_
                exact ihz3 _ (lf_e_flyGeese_6 la1 iz3 jz3 hh0 hiz3_1 hjz3 c_105) (iz3 + 1) gL gR (g_158 0) (g_158 1) (g_166 0) (g_166 1) _ _ _ (Or.inl ⟨rfl, rfl, kCt_w hkz3.1 (lf_e_flyGeese_4 la1 iz3 jz3 hh0 hiz3_1 hjz3 c_105) c_107 c_163 c_164 c_171 c_172 c_173 (Int32.not_lt.mpr c_174), kGz_w hkz3.2 (lf_e_flyGeese_4 la1 iz3 jz3 hh0 hiz3_1 hjz3 c_105) c_107 c_163 c_164 c_171 c_172 c_173 (Int32.not_lt.mpr c_174)⟩) (lf_e_flyGeese_5 la1 iz3 jz3 hh0 hiz3_1 hjz3 c_105) rfl (hP.sub [0, 1, 2, 3, 4] rfl) (hD.sub [0, 1, 2, 3, 4] (by decide +kernel) rfl) hS (lv_sub hl [0, 3, 4, 5] rfl)
              · refine lv_iload_n hx₀ hb dX10_flyGeese_131 rfl (lv_at hl 2 rfl) ?_
                refine lv_iload_n hx₀ hb dX10_flyGeese_132 rfl (lv_at hl 4 rfl) ?_
                refine lv_icmp_lt (tgt := 140) hx₀ hb dX10_flyGeese_133 (by decide) (fun c_176 => ?_) (fun c_176 => ?_)
                · refine lv_aload_n hx₀ hb dX10_flyGeese_140 rfl (lv_at hl 3 rfl) ?_
                  refine va_get (D := (dC, dI)) (ci := 9) (v := .ref gL) (C := RX10) (T := TX10) (N := 17) hx₀ hb hts inlX10 hown hK hP 0 rfl rfl 5 (by decide) (hts (.fieldLink RX10 21 "BittenStick$Trip" "left" "LBittenStick$Goose;") wd_87) (fun _ h9 => h9) rfl dX10_flyGeese_141 ?_
                  obtain ⟨hPc, hDc, hFc, hC⟩ := k_cw (wc := [(kX3 gL u0 u1 (g_158 0) (g_158 1))]) hP hD hS hA [3] (by decide +kernel) rfl
                  refine va_callv (va_runV (As := []) (rest := []) ⟨hx₀, hb, hml, hown, hts⟩ (j_gRest l dC dI cI cJ cQ H.size gL u0 u1 (g_158 0) (g_158 1)) (cwV 0 hts (kGV wd_487 wd_484 wd_485 wd_486 wd_84) rfl rfl rfl (by decide +kernel) ⟨Nat.le_of_ble_eq_true rfl, Nat.le_of_ble_eq_true rfl⟩) (k_preV3 (q0 := 0) hK hPc hDc hN rfl) rfl rfl hl.1 rfl (lv_room (Nat.le_of_ble_eq_true rfl)) dX10_flyGeese_144 ⟨by decide +kernel, by decide +kernel⟩) hS (fun q _ h => hFc q h) hFc (fun u₀ t₀ H1 locs ht hvm hw hB hz1 hk1 hS => ?_)
                  obtain ⟨g_178, ga_179, gl_180, gb_181, gp_182⟩ := u₀
                  obtain ⟨hP1, hK1, hD1⟩ := hB
                  rw [ht] at hP1
                  have hJ := k_jn (wr := [(kX10 aTr aLa aPa aGe gL gR gL gR tgo tca tki tso tbe twe tle tan tco ten), (kX4 aLa vLa l4 a4 n4), (kAI vLa cI 24 f4), (kX3 gR v0 v1 (g_166 0) (g_166 1))]) (wt := [(kX10 aTr aLa aPa aGe gL gR gL gR tgo tca tki tso tbe twe tle tan tco ten), (kX4 aLa vLa l4 a4 n4), (kAI vLa cI 24 f4), (kX3 gR v0 v1 (g_166 0) (g_166 1)), (kX3 gL u0 u1 (g_178 0) (g_158 1))]) hP hD hC [0, 1, 2, 4] rfl (by decide +kernel) (by decide +kernel) hk1 hFc hP1 hD1 rfl
                  clear hP hD hPc hDc hFc hC hP1 hD1 hK1 hz1 hk1 hvm ht
                  obtain ⟨hP, hD⟩ := hJ
                  generalize H1 = H at hP hS ⊢
                  try dsimp only at hw
                  have c_183 := hw
                  refine lv_aload_n hx₀ hb dX10_flyGeese_147 rfl (lv_at hl 3 rfl) ?_
                  refine va_get (D := (dC, dI)) (ci := 9) (v := .ref gR) (C := RX10) (T := TX10) (N := 17) hx₀ hb hts inlX10 hown hK hP 0 rfl rfl 6 (by decide) (hts (.fieldLink RX10 24 "BittenStick$Trip" "right" "LBittenStick$Goose;") wd_88) (fun _ h9 => h9) rfl dX10_flyGeese_148 ?_
                  obtain ⟨hPc, hDc, hFc, hC⟩ := k_cw (wc := [(kX3 gR v0 v1 (g_166 0) (g_166 1))]) hP hD hS hA [3] (by decide +kernel) rfl
                  refine va_callv (va_runV (As := []) (rest := []) ⟨hx₀, hb, hml, hown, hts⟩ (j_gRest l dC dI cI cJ cQ H.size gR v0 v1 (g_166 0) (g_166 1)) (cwV 0 hts (kGV wd_487 wd_484 wd_485 wd_486 wd_84) rfl rfl rfl (by decide +kernel) ⟨Nat.le_of_ble_eq_true rfl, Nat.le_of_ble_eq_true rfl⟩) (k_preV3 (q0 := 0) hK hPc hDc hN rfl) rfl rfl hl.1 rfl (lv_room (Nat.le_of_ble_eq_true rfl)) dX10_flyGeese_151 ⟨by decide +kernel, by decide +kernel⟩) hS (fun q _ h => hFc q h) hFc (fun u₀ t₀ H1 locs ht hvm hw hB hz1 hk1 hS => ?_)
                  obtain ⟨g_185, ga_186, gl_187, gb_188, gp_189⟩ := u₀
                  obtain ⟨hP1, hK1, hD1⟩ := hB
                  rw [ht] at hP1
                  have hJ := k_jn (wr := [(kX10 aTr aLa aPa aGe gL gR gL gR tgo tca tki tso tbe twe tle tan tco ten), (kX4 aLa vLa l4 a4 n4), (kAI vLa cI 24 f4), (kX3 gL u0 u1 (g_178 0) (g_158 1))]) (wt := [(kX10 aTr aLa aPa aGe gL gR gL gR tgo tca tki tso tbe twe tle tan tco ten), (kX4 aLa vLa l4 a4 n4), (kAI vLa cI 24 f4), (kX3 gL u0 u1 (g_178 0) (g_158 1)), (kX3 gR v0 v1 (g_185 0) (g_166 1))]) hP hD hC [0, 1, 2, 4] rfl (by decide +kernel) (by decide +kernel) hk1 hFc hP1 hD1 rfl
                  clear hP hD hPc hDc hFc hC hP1 hD1 hK1 hz1 hk1 hvm ht
                  obtain ⟨hP, hD⟩ := hJ
                  generalize H1 = H at hP hS ⊢
                  try dsimp only at hw
                  have c_190 := hw
                  refine lv_iinc (v := iz3 + 1) (lv' := [(3, .int (iz3 + 1)), (5, .ref gR), (4, .int (kAt 24 f4 iz3)), (0, .ref aTr), (1, .int la1), (2, .int ro)]) hx₀ hb dX10_flyGeese_154 hl (k := 2) rfl rfl (by decide) rfl (fun ls hl => ?_)
                  refine lv_goto (tgt := 32) hx₀ hb dX10_flyGeese_157 (by decide) ?_
                  exact ihz3 _ (lf_e_flyGeese_10 la1 iz3 jz3 hh0 hiz3_1 hjz3 c_105 c_176) (iz3 + 1) gL gR (g_178 0) (g_158 1) (g_185 0) (g_166 1) _ _ _ (absurd (c_107.symm.trans c_175) (by decide)) (lf_e_flyGeese_9 la1 iz3 jz3 hh0 hiz3_1 hjz3 c_105 c_176) rfl (hP.sub [0, 1, 2, 3, 4] rfl) (hD.sub [0, 1, 2, 3, 4] (by decide +kernel) rfl) hS (lv_sub hl [0, 3, 4, 5] rfl)
                · refine lv_iload_n hx₀ hb dX10_flyGeese_136 rfl (lv_at hl 5 rfl) ?_
                  refine lv_if_eq (tgt := 154) hx₀ hb dX10_flyGeese_137 (by decide) (fun c_191 => ?_) (fun c_191 => ?_)
                  · refine lv_iinc (v := iz3 + 1) (lv' := [(3, .int (iz3 + 1)), (5, .ref gR), (4, .int (kAt 24 f4 iz3)), (0, .ref aTr), (1, .int la1), (2, .int ro)]) hx₀ hb dX10_flyGeese_154 hl (k := 2) rfl rfl (by decide) rfl (fun ls hl => ?_)
                    refine lv_goto (tgt := 32) hx₀ hb dX10_flyGeese_157 (by decide) ?_
                    exact ihz3 _ (lf_e_flyGeese_14 la1 iz3 jz3 hh0 hiz3_1 hjz3 c_105 c_176) (iz3 + 1) gL gR (g_158 0) (g_158 1) (g_166 0) (g_166 1) _ _ _ (absurd (c_107.symm.trans c_175) (by decide)) (lf_e_flyGeese_13 la1 iz3 jz3 hh0 hiz3_1 hjz3 c_105 c_176) rfl (hP.sub [0, 1, 2, 3, 4] rfl) (hD.sub [0, 1, 2, 3, 4] (by decide +kernel) rfl) hS (lv_sub hl [0, 3, 4, 5] rfl)
                  · refine lv_aload_n hx₀ hb dX10_flyGeese_140 rfl (lv_at hl 3 rfl) ?_
                    refine va_get (D := (dC, dI)) (ci := 9) (v := .ref gL) (C := RX10) (T := TX10) (N := 17) hx₀ hb hts inlX10 hown hK hP 0 rfl rfl 5 (by decide) (hts (.fieldLink RX10 21 "BittenStick$Trip" "left" "LBittenStick$Goose;") wd_87) (fun _ h9 => h9) rfl dX10_flyGeese_141 ?_
                    obtain ⟨hPc, hDc, hFc, hC⟩ := k_cw (wc := [(kX3 gL u0 u1 (g_158 0) (g_158 1))]) hP hD hS hA [3] (by decide +kernel) rfl
                    refine va_callv (va_runV (As := []) (rest := []) ⟨hx₀, hb, hml, hown, hts⟩ (j_gRest l dC dI cI cJ cQ H.size gL u0 u1 (g_158 0) (g_158 1)) (cwV 0 hts (kGV wd_487 wd_484 wd_485 wd_486 wd_84) rfl rfl rfl (by decide +kernel) ⟨Nat.le_of_ble_eq_true rfl, Nat.le_of_ble_eq_true rfl⟩) (k_preV3 (q0 := 0) hK hPc hDc hN rfl) rfl rfl hl.1 rfl (lv_room (Nat.le_of_ble_eq_true rfl)) dX10_flyGeese_144 ⟨by decide +kernel, by decide +kernel⟩) hS (fun q _ h => hFc q h) hFc (fun u₀ t₀ H1 locs ht hvm hw hB hz1 hk1 hS => ?_)
                    obtain ⟨g_193, ga_194, gl_195, gb_196, gp_197⟩ := u₀
                    obtain ⟨hP1, hK1, hD1⟩ := hB
                    rw [ht] at hP1
                    have hJ := k_jn (wr := [(kX10 aTr aLa aPa aGe gL gR gL gR tgo tca tki tso tbe twe tle tan tco ten), (kX4 aLa vLa l4 a4 n4), (kAI vLa cI 24 f4), (kX3 gR v0 v1 (g_166 0) (g_166 1))]) (wt := [(kX10 aTr aLa aPa aGe gL gR gL gR tgo tca tki tso tbe twe tle tan tco ten), (kX4 aLa vLa l4 a4 n4), (kAI vLa cI 24 f4), (kX3 gR v0 v1 (g_166 0) (g_166 1)), (kX3 gL u0 u1 (g_193 0) (g_158 1))]) hP hD hC [0, 1, 2, 4] rfl (by decide +kernel) (by decide +kernel) hk1 hFc hP1 hD1 rfl
                    clear hP hD hPc hDc hFc hC hP1 hD1 hK1 hz1 hk1 hvm ht
                    obtain ⟨hP, hD⟩ := hJ
                    generalize H1 = H at hP hS ⊢
                    try dsimp only at hw
                    have c_198 := hw
                    refine lv_aload_n hx₀ hb dX10_flyGeese_147 rfl (lv_at hl 3 rfl) ?_
                    refine va_get (D := (dC, dI)) (ci := 9) (v := .ref gR) (C := RX10) (T := TX10) (N := 17) hx₀ hb hts inlX10 hown hK hP 0 rfl rfl 6 (by decide) (hts (.fieldLink RX10 24 "BittenStick$Trip" "right" "LBittenStick$Goose;") wd_88) (fun _ h9 => h9) rfl dX10_flyGeese_148 ?_
                    obtain ⟨hPc, hDc, hFc, hC⟩ := k_cw (wc := [(kX3 gR v0 v1 (g_166 0) (g_166 1))]) hP hD hS hA [3] (by decide +kernel) rfl
                    refine va_callv (va_runV (As := []) (rest := []) ⟨hx₀, hb, hml, hown, hts⟩ (j_gRest l dC dI cI cJ cQ H.size gR v0 v1 (g_166 0) (g_166 1)) (cwV 0 hts (kGV wd_487 wd_484 wd_485 wd_486 wd_84) rfl rfl rfl (by decide +kernel) ⟨Nat.le_of_ble_eq_true rfl, Nat.le_of_ble_eq_true rfl⟩) (k_preV3 (q0 := 0) hK hPc hDc hN rfl) rfl rfl hl.1 rfl (lv_room (Nat.le_of_ble_eq_true rfl)) dX10_flyGeese_151 ⟨by decide +kernel, by decide +kernel⟩) hS (fun q _ h => hFc q h) hFc (fun u₀ t₀ H1 locs ht hvm hw hB hz1 hk1 hS => ?_)
                    obtain ⟨g_200, ga_201, gl_202, gb_203, gp_204⟩ := u₀
                    obtain ⟨hP1, hK1, hD1⟩ := hB
                    rw [ht] at hP1
                    have hJ := k_jn (wr := [(kX10 aTr aLa aPa aGe gL gR gL gR tgo tca tki tso tbe twe tle tan tco ten), (kX4 aLa vLa l4 a4 n4), (kAI vLa cI 24 f4), (kX3 gL u0 u1 (g_193 0) (g_158 1))]) (wt := [(kX10 aTr aLa aPa aGe gL gR gL gR tgo tca tki tso tbe twe tle tan tco ten), (kX4 aLa vLa l4 a4 n4), (kAI vLa cI 24 f4), (kX3 gL u0 u1 (g_193 0) (g_158 1)), (kX3 gR v0 v1 (g_200 0) (g_166 1))]) hP hD hC [0, 1, 2, 4] rfl (by decide +kernel) (by decide +kernel) hk1 hFc hP1 hD1 rfl
                    clear hP hD hPc hDc hFc hC hP1 hD1 hK1 hz1 hk1 hvm ht
                    obtain ⟨hP, hD⟩ := hJ
                    generalize H1 = H at hP hS ⊢
                    try dsimp only at hw
                    have c_205 := hw
                    refine lv_iinc (v := iz3 + 1) (lv' := [(3, .int (iz3 + 1)), (5, .ref gR), (4, .int (kAt 24 f4 iz3)), (0, .ref aTr), (1, .int la1), (2, .int ro)]) hx₀ hb dX10_flyGeese_154 hl (k := 2) rfl rfl (by decide) rfl (fun ls hl => ?_)
                    refine lv_goto (tgt := 32) hx₀ hb dX10_flyGeese_157 (by decide) ?_
                    exact ihz3 _ (lf_e_flyGeese_14 la1 iz3 jz3 hh0 hiz3_1 hjz3 c_105 c_176) (iz3 + 1) gL gR (g_193 0) (g_158 1) (g_200 0) (g_166 1) _ _ _ (absurd (c_107.symm.trans c_175) (by decide)) (lf_e_flyGeese_13 la1 iz3 jz3 hh0 hiz3_1 hjz3 c_105 c_176) rfl (hP.sub [0, 1, 2, 3, 4] rfl) (hD.sub [0, 1, 2, 3, 4] (by decide +kernel) rfl) hS (lv_sub hl [0, 3, 4, 5] rfl)
            · refine lv_iload_n hx₀ hb dX10_flyGeese_122 rfl (lv_at hl 2 rfl) ?_
              obtain ⟨hP9, hD9⟩ := k_c2 (wc := [(kX10 aTr aLa aPa aGe gL gR gL gR tgo tca tki tso tbe twe tle tan tco ten), (kX3 gL u0 u1 (g_158 0) (g_158 1)), (kX3 gR v0 v1 (g_166 0) (g_166 1)), (kX4 aLa vLa l4 a4 n4), (kAI vLa cI 24 f4)]) hP hD [0, 3, 4, 1, 2] (by decide +kernel) rfl
              exact W.iret (v := iz3) hx₀ hb hr (fun t₀ ht hW => ⟨⟨iz3, (k_fn [(g_158 0), (g_158 1), (g_166 0), (g_166 1)], k_fa [], k_fl [], k_fL [], k_fp [gL, gR]), rfl, ⟨(kCt_fw hkz3.1 (lf_e_flyGeese_4 la1 iz3 jz3 hh0 hiz3_1 hjz3 c_105) c_107 c_163 c_171 (Or.inr (Int32.not_le.mp c_174))), (Or.inl ⟨rfl, rfl, kGz_fw hkz3.2 (lf_e_flyGeese_4 la1 iz3 jz3 hh0 hiz3_1 hjz3 c_105) c_107 c_163 c_164 c_171 c_172 (Or.inr (Int32.not_le.mp c_174))⟩)⟩, by rw [ht]; exact hP9, va_K.moved hW.alike hK, hD9⟩, hS.F ht⟩) hS.2.2 dX10_flyGeese_123
theorem lf_e_board_1 (a0 : Int32) (h0 : 0 ≤ a0 ∧ a0 ≤ 24) : -1 ≤ (a0 - 1) ∧ (a0 - 1).toInt < 2147483647 := by
  first | rfl | assumption | decide | exact Or.inl rfl | (first | omega | (have hr0 := Int32.toInt_lt a0; have hs0 := Int32.le_toInt a0; simp only [Int64.toInt_add, Int64.toInt_sub, Int32.toInt_add, Int32.toInt_sub, Int32.toInt_mul, Int64.le_iff_toInt_le, Int64.lt_iff_toInt_lt, Int32.le_iff_toInt_le, Int32.lt_iff_toInt_lt, ← Int32.toInt_inj, ← Int64.toInt_inj, Int32.toInt_toInt64, kc_m1, kc_0, kc_1, kc_24, kc_2147483647] at *; (first | omega | ((try simp (disch := omega) only [k_bm64] at *); (try simp (disch := omega) only [k_bm] at *); (try simp (disch := omega) only [k_bm] at *); omega) | (simp only [Int.bmod] at *; omega))))
set_option maxHeartbeats 4000000 in
set_option maxRecDepth 100000 in
theorem e_board (l : Launch) (dC : Nat → ClassId) (dI : Nat → Nat → Nat) (cI cJ cQ : ClassId) (sz : Nat) (aTr : Nat) (p1 : Int32) (q1 : Int32) (r1 : Int32) (aLa : Nat) (aPa : Nat) (aGe : Nat) (gL : Nat) (gR : Nat) (lf : Nat) (rt : Nat) (tgo : Int32) (tca : Int32) (tki : Int32) (tso : Int32) (tbe : Int32) (twe : Int32) (tle : Int32) (tan : Int32) (tco : Int32) (ten : Int32) (u0 : Int32) (u1 : Int32) (u2 : Int32) (u3 : Int32) (v0 : Int32) (v1 : Int32) (v2 : Int32) (v3 : Int32) (vLa : Nat) (l4 : Int32) (a4 : Int32) (n4 : Int32) (f4 : Nat → Int32) (vPa : Nat) (l7 : Int32) (a7 : Int32) (n7 : Int32) (f7 : Nat → Int32) (vGe : Nat) (l2 : Int32) (a2 : Int32) (n2 : Int32) (f2 : Nat → Int32) (hh0 : 0 ≤ n4 ∧ n4 ≤ 24) : Met l yX10_board (kW yX10_board cX10_board 4 none) { frames := 2, cells := 0, slots := 0, locals := 46 } (kPre dC dI cI cJ cQ sz [.ref aTr, .int p1, .int q1, .int r1] [(kX10 aTr aLa aPa aGe gL gR lf rt tgo tca tki tso tbe twe tle tan tco ten), (kX3 gL u0 u1 u2 u3), (kX3 gR v0 v1 v2 v3), (kX4 aLa vLa l4 a4 n4), (kAI vLa cI 24 f4), (kX7 aPa vPa l7 a7 n7), (kAI vPa cI 39 f7), (kX2 aGe vGe l2 a2 n2), (kAI vGe cI 23 f2)]) (va_Qv (fun (u : kS) => ((u.1 8) = if (0 ≤ p1 ∧ p1 < n7) ∧ (0 ≤ q1 ∧ q1 < n2) ∧ 0 ≤ r1 ∧ r1 < n2 then 1 else 0) ∧ ((u.1 9) = if (0 ≤ p1 ∧ p1 < n7) ∧ (0 ≤ q1 ∧ q1 < n2) ∧ 0 ≤ r1 ∧ r1 < n2 then kCt (kAt 24 f4) (kAt 39 f7 ((5 * p1) + 3)) (kfu n4 0) 0 ((kAt 23 f2 ((3 * q1) + 0), kAt 23 f2 ((3 * q1) + 1), kAt 23 f2 ((3 * q1) + 0), 0), (kAt 23 f2 ((3 * r1) + 0), kAt 23 f2 ((3 * r1) + 1), kAt 23 f2 ((3 * r1) + 0), 0)) else 0) ∧ ((u.1 10) = if (0 ≤ p1 ∧ p1 < n7) ∧ (0 ≤ q1 ∧ q1 < n2) ∧ 0 ≤ r1 ∧ r1 < n2 then kAt 39 f7 ((5 * p1) + 0) else tki) ∧ ((u.1 11) = if (0 ≤ p1 ∧ p1 < n7) ∧ (0 ≤ q1 ∧ q1 < n2) ∧ 0 ≤ r1 ∧ r1 < n2 then kAt 39 f7 ((5 * p1) + 1) else tso) ∧ ((u.1 12) = if (0 ≤ p1 ∧ p1 < n7) ∧ (0 ≤ q1 ∧ q1 < n2) ∧ 0 ≤ r1 ∧ r1 < n2 then 5 * (kAt 39 f7 ((5 * p1) + 2)) else tbe) ∧ ((u.1 13) = if (0 ≤ p1 ∧ p1 < n7) ∧ (0 ≤ q1 ∧ q1 < n2) ∧ 0 ≤ r1 ∧ r1 < n2 then kAt 39 f7 ((5 * p1) + 3) else twe) ∧ ((u.1 0) = if (0 ≤ p1 ∧ p1 < n7) ∧ (0 ≤ q1 ∧ q1 < n2) ∧ 0 ≤ r1 ∧ r1 < n2 then kAt 23 f2 ((3 * q1) + 0) else u0) ∧ ((u.1 1) = if (0 ≤ p1 ∧ p1 < n7) ∧ (0 ≤ q1 ∧ q1 < n2) ∧ 0 ≤ r1 ∧ r1 < n2 then kAt 23 f2 ((3 * q1) + 1) else u1) ∧ ((u.1 4) = if (0 ≤ p1 ∧ p1 < n7) ∧ (0 ≤ q1 ∧ q1 < n2) ∧ 0 ≤ r1 ∧ r1 < n2 then kAt 23 f2 ((3 * r1) + 0) else v0) ∧ ((u.1 5) = if (0 ≤ p1 ∧ p1 < n7) ∧ (0 ≤ q1 ∧ q1 < n2) ∧ 0 ≤ r1 ∧ r1 < n2 then kAt 23 f2 ((3 * r1) + 1) else v1)) (fun (u : kS) t₀ => kB dC dI cI cJ cQ (va_A [(kX10 aTr aLa aPa aGe gL gR lf rt tgo tca tki tso tbe twe tle tan tco ten), (kX3 gL u0 u1 u2 u3), (kX3 gR v0 v1 v2 v3), (kX4 aLa vLa l4 a4 n4), (kAI vLa cI 24 f4), (kX7 aPa vPa l7 a7 n7), (kAI vPa cI 39 f7), (kX2 aGe vGe l2 a2 n2), (kAI vGe cI 23 f2)] sz) [(kX10 aTr aLa aPa aGe gL gR (u.2.2.2.2 0) (u.2.2.2.2 1) (u.1 8) (u.1 9) (u.1 10) (u.1 11) (u.1 12) (u.1 13) tle tan tco ten), (kX3 gL (u.1 0) (u.1 1) (u.1 2) (u.1 3)), (kX3 gR (u.1 4) (u.1 5) (u.1 6) (u.1 7)), (kX4 aLa vLa l4 a4 n4), (kAI vLa cI 24 f4), (kX7 aPa vPa l7 a7 n7), (kAI vPa cI 39 f7), (kX2 aGe vGe l2 a2 n2), (kAI vGe cI 23 f2)] t₀) (va_A [(kX10 aTr aLa aPa aGe gL gR lf rt tgo tca tki tso tbe twe tle tan tco ten), (kX3 gL u0 u1 u2 u3), (kX3 gR v0 v1 v2 v3), (kX4 aLa vLa l4 a4 n4), (kAI vLa cI 24 f4), (kX7 aPa vPa l7 a7 n7), (kAI vPa cI 39 f7), (kX2 aGe vGe l2 a2 n2), (kAI vGe cI 23 f2)] sz)) 0 0 (va_A [(kX10 aTr aLa aPa aGe gL gR lf rt tgo tca tki tso tbe twe tle tan tco ten), (kX3 gL u0 u1 u2 u3), (kX3 gR v0 v1 v2 v3), (kX4 aLa vLa l4 a4 n4), (kAI vLa cI 24 f4), (kX7 aPa vPa l7 a7 n7), (kAI vPa cI 39 f7), (kX2 aGe vGe l2 a2 n2), (kAI vGe cI 23 f2)] sz) := by
  refine Met.ofW (cc := cX10_board) (maxL := 4) (ret := none) (by decide) rfl ?_
  intro p₀ e₀ s₀ m₀ args below meth c₀ s₁ B hml hv₀
  obtain ⟨rfl, hsz, hP, hK, hD0, hN⟩ := hv₀
  have hx₀ := B.exec
  have hb := B.bytes
  have hr := B.returns
  have hts := atoms_spec (ws := (kW yX10_board cX10_board 4 none)) B.pre
  have hts := fun w h => hts w (List.mem_cons_of_mem _ h)
  have hown : s₀.vm.findClass RX10 = some m₀.cls := findClass_of_methodNamed B.named
  have hlocks := B.notSynchronized
  subst hsz
  have hD := hD0.self (sz := s₀.heap.size)
  generalize hAe : va_A [(kX10 aTr aLa aPa aGe gL gR lf rt tgo tca tki tso tbe twe tle tan tco ten), (kX3 gL u0 u1 u2 u3), (kX3 gR v0 v1 v2 v3), (kX4 aLa vLa l4 a4 n4), (kAI vLa cI 24 f4), (kX7 aPa vPa l7 a7 n7), (kAI vPa cI 39 f7), (kX2 aGe vGe l2 a2 n2), (kAI vGe cI 23 f2)] s₀.heap.size = A at hD ⊢
  have hA : ∀ q : Nat, s₀.heap.size ≤ q → A q := fun q h => by rw [← hAe]; exact Or.inr h
  have hS : va_S A s₀.heap s₀.heap [] := va_S.rf
  have hP : va_P (dC, dI) vwCl [(kX10 aTr aLa aPa aGe gL gR lf rt tgo tca tki tso tbe twe tle tan tco ten), (kX3 gL u0 u1 u2 u3), (kX3 gR v0 v1 v2 v3), (kX4 aLa vLa l4 a4 n4), (kAI vLa cI 24 f4), (kX7 aPa vPa l7 a7 n7), (kAI vPa cI 39 f7), (kX2 aGe vGe l2 a2 n2), (kAI vGe cI 23 f2)] s₀.heap := hP
  have hl := lv_entry ([.ref aTr, .int p1, .int q1, .int r1]) (n := 4) (Nat.le_of_ble_eq_true rfl)
  rw [lg_entry_eq]
  generalize (lg_sl ([.ref aTr, .int p1, .int q1, .int r1]) ++ List.replicate (4 - (lg_sl ([.ref aTr, .int p1, .int q1, .int r1])).length) Slot.unset).toArray = ls at hl ⊢
  have hl : lv_has ls 4 [(0, .ref aTr), (1, .int p1), (2, .int q1), (3, .int r1)] := hl
  obtain ⟨H, hH⟩ : ∃ z : Heap, z = s₀.heap := ⟨_, rfl⟩
  rw [← hH] at hP
  have hS : va_S A s₀.heap H [] := by rw [hH]; exact hS
  refine k_heap hH ?_
  have hD : va_D A [(kX10 aTr aLa aPa aGe gL gR lf rt tgo tca tki tso tbe twe tle tan tco ten), (kX3 gL u0 u1 u2 u3), (kX3 gR v0 v1 v2 v3), (kX4 aLa vLa l4 a4 n4), (kAI vLa cI 24 f4), (kX7 aPa vPa l7 a7 n7), (kAI vPa cI 39 f7), (kX2 aGe vGe l2 a2 n2), (kAI vGe cI 23 f2)] := hD
  obtain ⟨locs, hlo⟩ : ∃ z : List Loc, z = [] := ⟨_, rfl⟩
  rw [← hlo] at hS ⊢
  clear hlo hH hAe hD0
  refine lv_aload_n hx₀ hb dX10_board_0 rfl (lv_at hl 0 rfl) ?_
  refine lv_aload_n hx₀ hb dX10_board_1 rfl (lv_at hl 0 rfl) ?_
  refine va_get (D := (dC, dI)) (ci := 9) (v := .ref aPa) (C := RX10) (T := TX10) (N := 17) hx₀ hb hts inlX10 hown hK hP 0 rfl rfl 1 (by decide) (hts (.fieldLink RX10 31 "BittenStick$Trip" "passengers" "LBittenStick$Passengers;") wd_90) (fun _ h9 => h9) rfl dX10_board_2 ?_
  refine lv_iload_n hx₀ hb dX10_board_5 rfl (lv_at hl 1 rfl) ?_
  obtain ⟨hPc, hDc, hFc, hC⟩ := k_cw (wc := [(kX7 aPa vPa l7 a7 n7)]) hP hD hS hA [5] (by decide +kernel) rfl
  refine va_calli (va_runU (As := [.int p1]) (rest := [.ref aTr]) ⟨hx₀, hb, hml, hown, hts⟩ (j_has_X7 l dC dI cI cJ cQ H.size aPa p1 vPa l7 a7 n7) (va_cwU 1 hts (kGU wd_307 wd_462 wd_304 wd_305 wd_306 wd_57) rfl rfl rfl rfl (by decide +kernel) ⟨Nat.le_of_ble_eq_true rfl, Nat.le_of_ble_eq_true rfl⟩) (k_preV7 (q0 := 0) hK hPc hDc hN rfl) rfl rfl hl.1 rfl (lv_room (Nat.le_of_ble_eq_true rfl)) dX10_board_6 ⟨by decide +kernel, by decide +kernel⟩) hS (fun q _ h => hFc q h) hFc (fun r_1 u₀ t₀ H1 locs ht hvm hw hB hz1 hk1 hS => ?_)
  obtain ⟨hP1, hK1, hD1⟩ := hB
  rw [ht] at hP1
  have hJ := k_jn (wr := [(kX10 aTr aLa aPa aGe gL gR lf rt tgo tca tki tso tbe twe tle tan tco ten), (kX3 gL u0 u1 u2 u3), (kX3 gR v0 v1 v2 v3), (kX4 aLa vLa l4 a4 n4), (kAI vLa cI 24 f4), (kAI vPa cI 39 f7), (kX2 aGe vGe l2 a2 n2), (kAI vGe cI 23 f2)]) (wt := [(kX10 aTr aLa aPa aGe gL gR lf rt tgo tca tki tso tbe twe tle tan tco ten), (kX3 gL u0 u1 u2 u3), (kX3 gR v0 v1 v2 v3), (kX4 aLa vLa l4 a4 n4), (kAI vLa cI 24 f4), (kAI vPa cI 39 f7), (kX2 aGe vGe l2 a2 n2), (kAI vGe cI 23 f2), (kX7 aPa vPa l7 a7 n7)]) hP hD hC [0, 1, 2, 3, 4, 6, 7, 8] rfl (by decide +kernel) (by decide +kernel) hk1 hFc hP1 hD1 rfl
  clear hP hD hPc hDc hFc hC hP1 hD1 hK1 hz1 hk1 hvm ht
  obtain ⟨hP, hD⟩ := hJ
  generalize H1 = H at hP hS ⊢
  try dsimp only at hw
  by_cases c_2 : 0 ≤ p1 ∧ p1 < n7
  · rw [if_pos c_2] at hw
    refine k_topi (v := 1) hw ?_
    refine lv_if_eq (tgt := 38) hx₀ hb dX10_board_9 (by decide) (fun c9 => absurd c9 (by decide +kernel)) (fun _ => ?_)
    refine lv_aload_n hx₀ hb dX10_board_12 rfl (lv_at hl 0 rfl) ?_
    refine va_get (D := (dC, dI)) (ci := 9) (v := .ref aGe) (C := RX10) (T := TX10) (N := 17) hx₀ hb hts inlX10 hown hK hP 0 rfl rfl 2 (by decide) (hts (.fieldLink RX10 35 "BittenStick$Trip" "geese" "LBittenStick$Geese;") wd_91) (fun _ h9 => h9) rfl dX10_board_13 ?_
    refine lv_iload_n hx₀ hb dX10_board_16 rfl (lv_at hl 2 rfl) ?_
    obtain ⟨hPc, hDc, hFc, hC⟩ := k_cw (wc := [(kX2 aGe vGe l2 a2 n2)]) hP hD hS hA [6] (by decide +kernel) rfl
    refine va_calli (va_runU (As := [.int q1]) (rest := [.ref aTr]) ⟨hx₀, hb, hml, hown, hts⟩ (j_has_X2 l dC dI cI cJ cQ H.size aGe q1 vGe l2 a2 n2) (va_cwU 1 hts (kGU wd_307 wd_463 wd_329 wd_330 wd_306 wd_57) rfl rfl rfl rfl (by decide +kernel) ⟨Nat.le_of_ble_eq_true rfl, Nat.le_of_ble_eq_true rfl⟩) (k_preV2 (q0 := 0) hK hPc hDc hN rfl) rfl rfl hl.1 rfl (lv_room (Nat.le_of_ble_eq_true rfl)) dX10_board_17 ⟨by decide +kernel, by decide +kernel⟩) hS (fun q _ h => hFc q h) hFc (fun r_3 u₀ t₀ H1 locs ht hvm hw hB hz1 hk1 hS => ?_)
    obtain ⟨hP1, hK1, hD1⟩ := hB
    rw [ht] at hP1
    have hJ := k_jn (wr := [(kX10 aTr aLa aPa aGe gL gR lf rt tgo tca tki tso tbe twe tle tan tco ten), (kX3 gL u0 u1 u2 u3), (kX3 gR v0 v1 v2 v3), (kX4 aLa vLa l4 a4 n4), (kAI vLa cI 24 f4), (kAI vPa cI 39 f7), (kAI vGe cI 23 f2), (kX7 aPa vPa l7 a7 n7)]) (wt := [(kX10 aTr aLa aPa aGe gL gR lf rt tgo tca tki tso tbe twe tle tan tco ten), (kX3 gL u0 u1 u2 u3), (kX3 gR v0 v1 v2 v3), (kX4 aLa vLa l4 a4 n4), (kAI vLa cI 24 f4), (kAI vPa cI 39 f7), (kAI vGe cI 23 f2), (kX7 aPa vPa l7 a7 n7), (kX2 aGe vGe l2 a2 n2)]) hP hD hC [0, 1, 2, 3, 4, 5, 7, 8] rfl (by decide +kernel) (by decide +kernel) hk1 hFc hP1 hD1 rfl
    clear hP hD hPc hDc hFc hC hP1 hD1 hK1 hz1 hk1 hvm ht
    obtain ⟨hP, hD⟩ := hJ
    generalize H1 = H at hP hS ⊢
    try dsimp only at hw
    by_cases c_4 : 0 ≤ q1 ∧ q1 < n2
    · rw [if_pos c_4] at hw
      refine k_topi (v := 1) hw ?_
      refine lv_if_eq (tgt := 38) hx₀ hb dX10_board_20 (by decide) (fun c9 => absurd c9 (by decide +kernel)) (fun _ => ?_)
      refine lv_aload_n hx₀ hb dX10_board_23 rfl (lv_at hl 0 rfl) ?_
      refine va_get (D := (dC, dI)) (ci := 9) (v := .ref aGe) (C := RX10) (T := TX10) (N := 17) hx₀ hb hts inlX10 hown hK hP 0 rfl rfl 2 (by decide) (hts (.fieldLink RX10 35 "BittenStick$Trip" "geese" "LBittenStick$Geese;") wd_91) (fun _ h9 => h9) rfl dX10_board_24 ?_
      refine lv_iload_n hx₀ hb dX10_board_27 rfl (lv_at hl 3 rfl) ?_
      obtain ⟨hPc, hDc, hFc, hC⟩ := k_cw (wc := [(kX2 aGe vGe l2 a2 n2)]) hP hD hS hA [8] (by decide +kernel) rfl
      refine va_calli (va_runU (As := [.int r1]) (rest := [.ref aTr]) ⟨hx₀, hb, hml, hown, hts⟩ (j_has_X2 l dC dI cI cJ cQ H.size aGe r1 vGe l2 a2 n2) (va_cwU 1 hts (kGU wd_307 wd_463 wd_329 wd_330 wd_306 wd_57) rfl rfl rfl rfl (by decide +kernel) ⟨Nat.le_of_ble_eq_true rfl, Nat.le_of_ble_eq_true rfl⟩) (k_preV2 (q0 := 0) hK hPc hDc hN rfl) rfl rfl hl.1 rfl (lv_room (Nat.le_of_ble_eq_true rfl)) dX10_board_28 ⟨by decide +kernel, by decide +kernel⟩) hS (fun q _ h => hFc q h) hFc (fun r_5 u₀ t₀ H1 locs ht hvm hw hB hz1 hk1 hS => ?_)
      obtain ⟨hP1, hK1, hD1⟩ := hB
      rw [ht] at hP1
      have hJ := k_jn (wr := [(kX10 aTr aLa aPa aGe gL gR lf rt tgo tca tki tso tbe twe tle tan tco ten), (kX3 gL u0 u1 u2 u3), (kX3 gR v0 v1 v2 v3), (kX4 aLa vLa l4 a4 n4), (kAI vLa cI 24 f4), (kAI vPa cI 39 f7), (kAI vGe cI 23 f2), (kX7 aPa vPa l7 a7 n7)]) (wt := [(kX10 aTr aLa aPa aGe gL gR lf rt tgo tca tki tso tbe twe tle tan tco ten), (kX3 gL u0 u1 u2 u3), (kX3 gR v0 v1 v2 v3), (kX4 aLa vLa l4 a4 n4), (kAI vLa cI 24 f4), (kAI vPa cI 39 f7), (kAI vGe cI 23 f2), (kX7 aPa vPa l7 a7 n7), (kX2 aGe vGe l2 a2 n2)]) hP hD hC [0, 1, 2, 3, 4, 5, 6, 7] rfl (by decide +kernel) (by decide +kernel) hk1 hFc hP1 hD1 rfl
      clear hP hD hPc hDc hFc hC hP1 hD1 hK1 hz1 hk1 hvm ht
      obtain ⟨hP, hD⟩ := hJ
      generalize H1 = H at hP hS ⊢
      try dsimp only at hw
      by_cases c_6 : 0 ≤ r1 ∧ r1 < n2
      · rw [if_pos c_6] at hw
        refine k_topi (v := 1) hw ?_
        refine lv_if_eq (tgt := 38) hx₀ hb dX10_board_31 (by decide) (fun c9 => absurd c9 (by decide +kernel)) (fun _ => ?_)
        refine lv_iconst (v := 1) hx₀ hb dX10_board_34 (by decide +kernel) ?_
        refine lv_goto (tgt := 39) hx₀ hb dX10_board_35 (by decide) ?_
        refine va_put (D := (dC, dI)) (ci := 9) (v := .int 1) (ty := .boolean) (C := RX10) (T := TX10) (N := 17) hx₀ hb hts inlX10 tyX10 tyX10_ok nmX10 hown hK hP hD hS 0 rfl rfl 7 (by decide) (hts (.fieldLink RX10 48 "BittenStick$Trip" "goes" "Z") wd_453) (fun _ h9 => h9) rfl (by decide +kernel) (by decide +kernel) (by decide +kernel) (Nat.le_of_ble_eq_true rfl) dX10_board_39 ?_
        clear hP hD hS
        intro H locs hP hD hS
        replace hP := k_w2 (wt := [(kX10 aTr aLa aPa aGe gL gR lf rt 1 tca tki tso tbe twe tle tan tco ten), (kX3 gL u0 u1 u2 u3), (kX3 gR v0 v1 v2 v3), (kX4 aLa vLa l4 a4 n4), (kAI vLa cI 24 f4), (kAI vPa cI 39 f7), (kAI vGe cI 23 f2), (kX7 aPa vPa l7 a7 n7), (kX2 aGe vGe l2 a2 n2)]) hP hD rfl
        replace hD := hP.2
        replace hP := hP.1
        refine lv_aload_n hx₀ hb dX10_board_42 rfl (lv_at hl 0 rfl) ?_
        refine lv_iconst (v := 0) hx₀ hb dX10_board_43 (by decide +kernel) ?_
        refine va_put (D := (dC, dI)) (ci := 9) (v := .int 0) (ty := .int) (C := RX10) (T := TX10) (N := 17) hx₀ hb hts inlX10 tyX10 tyX10_ok nmX10 hown hK hP hD hS 0 rfl rfl 8 (by decide) (hts (.fieldLink RX10 52 "BittenStick$Trip" "carriedTo" "I") wd_454) (fun _ h9 => h9) rfl (by decide +kernel) rfl rfl (Nat.le_of_ble_eq_true rfl) dX10_board_44 ?_
        clear hP hD hS
        intro H locs hP hD hS
        replace hP := k_w2 (wt := [(kX10 aTr aLa aPa aGe gL gR lf rt 1 0 tki tso tbe twe tle tan tco ten), (kX3 gL u0 u1 u2 u3), (kX3 gR v0 v1 v2 v3), (kX4 aLa vLa l4 a4 n4), (kAI vLa cI 24 f4), (kAI vPa cI 39 f7), (kAI vGe cI 23 f2), (kX7 aPa vPa l7 a7 n7), (kX2 aGe vGe l2 a2 n2)]) hP hD rfl
        replace hD := hP.2
        replace hP := hP.1
        refine lv_aload_n hx₀ hb dX10_board_47 rfl (lv_at hl 0 rfl) ?_
        refine va_get (D := (dC, dI)) (ci := 9) (v := .int 1) (C := RX10) (T := TX10) (N := 17) hx₀ hb hts inlX10 hown hK hP 0 rfl rfl 7 (by decide) (hts (.fieldLink RX10 48 "BittenStick$Trip" "goes" "Z") wd_453) (fun _ h9 => h9) rfl dX10_board_48 ?_
        refine lv_if_eq (tgt := 190) hx₀ hb dX10_board_51 (by decide) (fun c9 => absurd c9 (by decide +kernel)) (fun _ => ?_)
        refine lv_aload_n hx₀ hb dX10_board_54 rfl (lv_at hl 0 rfl) ?_
        refine lv_aload_n hx₀ hb dX10_board_55 rfl (lv_at hl 0 rfl) ?_
        refine va_get (D := (dC, dI)) (ci := 9) (v := .ref aPa) (C := RX10) (T := TX10) (N := 17) hx₀ hb hts inlX10 hown hK hP 0 rfl rfl 1 (by decide) (hts (.fieldLink RX10 31 "BittenStick$Trip" "passengers" "LBittenStick$Passengers;") wd_90) (fun _ h9 => h9) rfl dX10_board_56 ?_
        refine lv_iload_n hx₀ hb dX10_board_59 rfl (lv_at hl 1 rfl) ?_
        refine lv_iconst (v := 0) hx₀ hb dX10_board_60 (by decide +kernel) ?_
        obtain ⟨hPc, hDc, hFc, hC⟩ := k_cw (wc := [(kX7 aPa vPa l7 a7 n7), (kAI vPa cI 39 f7)]) hP hD hS hA [7, 5] (by decide +kernel) rfl
        refine va_calli (va_runV (As := [.int p1, .int 0]) (rest := [.ref aTr]) ⟨hx₀, hb, hml, hown, hts⟩ (j_toldP l dC dI cI cJ cQ H.size aPa p1 0 vPa l7 a7 n7 f7) (cwV 2 hts (kGV wd_311 wd_464 wd_309 wd_310 wd_18) rfl rfl rfl (by decide +kernel) ⟨Nat.le_of_ble_eq_true rfl, Nat.le_of_ble_eq_true rfl⟩) (k_preV7 (q0 := 0) hK hPc hDc hN rfl) rfl rfl hl.1 rfl (lv_room (Nat.le_of_ble_eq_true rfl)) dX10_board_61 ⟨by decide +kernel, by decide +kernel⟩) hS (fun q _ h => hFc q h) hFc (fun r_7 u₀ t₀ H1 locs ht hvm hw hB hz1 hk1 hS => ?_)
        obtain ⟨hP1, hK1, hD1⟩ := hB
        rw [ht] at hP1
        have hJ := k_jn (wr := [(kX10 aTr aLa aPa aGe gL gR lf rt 1 0 tki tso tbe twe tle tan tco ten), (kX3 gL u0 u1 u2 u3), (kX3 gR v0 v1 v2 v3), (kX4 aLa vLa l4 a4 n4), (kAI vLa cI 24 f4), (kAI vGe cI 23 f2), (kX2 aGe vGe l2 a2 n2)]) (wt := [(kX10 aTr aLa aPa aGe gL gR lf rt 1 0 tki tso tbe twe tle tan tco ten), (kX3 gL u0 u1 u2 u3), (kX3 gR v0 v1 v2 v3), (kX4 aLa vLa l4 a4 n4), (kAI vLa cI 24 f4), (kAI vGe cI 23 f2), (kX2 aGe vGe l2 a2 n2), (kX7 aPa vPa l7 a7 n7), (kAI vPa cI 39 f7)]) hP hD hC [0, 1, 2, 3, 4, 6, 8] rfl (by decide +kernel) (by decide +kernel) hk1 hFc hP1 hD1 rfl
        clear hP hD hPc hDc hFc hC hP1 hD1 hK1 hz1 hk1 hvm ht
        obtain ⟨hP, hD⟩ := hJ
        generalize H1 = H at hP hS ⊢
        try dsimp only at hw
        refine k_topi (v := kAt 39 f7 ((5 * p1) + (0 : Int32))) hw ?_
        refine va_put (D := (dC, dI)) (ci := 9) (v := .int (kAt 39 f7 ((5 * p1) + (0 : Int32)))) (ty := .int) (C := RX10) (T := TX10) (N := 17) hx₀ hb hts inlX10 tyX10 tyX10_ok nmX10 hown hK hP hD hS 0 rfl rfl 9 (by decide) (hts (.fieldLink RX10 60 "BittenStick$Trip" "kind" "I") wd_455) (fun _ h9 => h9) rfl (by decide +kernel) rfl rfl (Nat.le_of_ble_eq_true rfl) dX10_board_64 ?_
        clear hP hD hS
        intro H locs hP hD hS
        replace hP := k_w2 (wt := [(kX10 aTr aLa aPa aGe gL gR lf rt 1 0 (kAt 39 f7 ((5 * p1) + (0 : Int32))) tso tbe twe tle tan tco ten), (kX3 gL u0 u1 u2 u3), (kX3 gR v0 v1 v2 v3), (kX4 aLa vLa l4 a4 n4), (kAI vLa cI 24 f4), (kAI vGe cI 23 f2), (kX2 aGe vGe l2 a2 n2), (kX7 aPa vPa l7 a7 n7), (kAI vPa cI 39 f7)]) hP hD rfl
        replace hD := hP.2
        replace hP := hP.1
        refine lv_aload_n hx₀ hb dX10_board_67 rfl (lv_at hl 0 rfl) ?_
        refine lv_aload_n hx₀ hb dX10_board_68 rfl (lv_at hl 0 rfl) ?_
        refine va_get (D := (dC, dI)) (ci := 9) (v := .ref aPa) (C := RX10) (T := TX10) (N := 17) hx₀ hb hts inlX10 hown hK hP 0 rfl rfl 1 (by decide) (hts (.fieldLink RX10 31 "BittenStick$Trip" "passengers" "LBittenStick$Passengers;") wd_90) (fun _ h9 => h9) rfl dX10_board_69 ?_
        refine lv_iload_n hx₀ hb dX10_board_72 rfl (lv_at hl 1 rfl) ?_
        refine lv_iconst (v := 1) hx₀ hb dX10_board_73 (by decide +kernel) ?_
        obtain ⟨hPc, hDc, hFc, hC⟩ := k_cw (wc := [(kX7 aPa vPa l7 a7 n7), (kAI vPa cI 39 f7)]) hP hD hS hA [7, 8] (by decide +kernel) rfl
        refine va_calli (va_runV (As := [.int p1, .int 1]) (rest := [.ref aTr]) ⟨hx₀, hb, hml, hown, hts⟩ (j_toldP l dC dI cI cJ cQ H.size aPa p1 1 vPa l7 a7 n7 f7) (cwV 2 hts (kGV wd_311 wd_464 wd_309 wd_310 wd_18) rfl rfl rfl (by decide +kernel) ⟨Nat.le_of_ble_eq_true rfl, Nat.le_of_ble_eq_true rfl⟩) (k_preV7 (q0 := 0) hK hPc hDc hN rfl) rfl rfl hl.1 rfl (lv_room (Nat.le_of_ble_eq_true rfl)) dX10_board_74 ⟨by decide +kernel, by decide +kernel⟩) hS (fun q _ h => hFc q h) hFc (fun r_8 u₀ t₀ H1 locs ht hvm hw hB hz1 hk1 hS => ?_)
        obtain ⟨hP1, hK1, hD1⟩ := hB
        rw [ht] at hP1
        have hJ := k_jn (wr := [(kX10 aTr aLa aPa aGe gL gR lf rt 1 0 (kAt 39 f7 ((5 * p1) + (0 : Int32))) tso tbe twe tle tan tco ten), (kX3 gL u0 u1 u2 u3), (kX3 gR v0 v1 v2 v3), (kX4 aLa vLa l4 a4 n4), (kAI vLa cI 24 f4), (kAI vGe cI 23 f2), (kX2 aGe vGe l2 a2 n2)]) (wt := [(kX10 aTr aLa aPa aGe gL gR lf rt 1 0 (kAt 39 f7 ((5 * p1) + (0 : Int32))) tso tbe twe tle tan tco ten), (kX3 gL u0 u1 u2 u3), (kX3 gR v0 v1 v2 v3), (kX4 aLa vLa l4 a4 n4), (kAI vLa cI 24 f4), (kAI vGe cI 23 f2), (kX2 aGe vGe l2 a2 n2), (kX7 aPa vPa l7 a7 n7), (kAI vPa cI 39 f7)]) hP hD hC [0, 1, 2, 3, 4, 5, 6] rfl (by decide +kernel) (by decide +kernel) hk1 hFc hP1 hD1 rfl
        clear hP hD hPc hDc hFc hC hP1 hD1 hK1 hz1 hk1 hvm ht
        obtain ⟨hP, hD⟩ := hJ
        generalize H1 = H at hP hS ⊢
        try dsimp only at hw
        refine k_topi (v := kAt 39 f7 ((5 * p1) + (1 : Int32))) hw ?_
        refine va_put (D := (dC, dI)) (ci := 9) (v := .int (kAt 39 f7 ((5 * p1) + (1 : Int32)))) (ty := .int) (C := RX10) (T := TX10) (N := 17) hx₀ hb hts inlX10 tyX10 tyX10_ok nmX10 hown hK hP hD hS 0 rfl rfl 10 (by decide) (hts (.fieldLink RX10 63 "BittenStick$Trip" "sore" "I") wd_456) (fun _ h9 => h9) rfl (by decide +kernel) rfl rfl (Nat.le_of_ble_eq_true rfl) dX10_board_77 ?_
        clear hP hD hS
        intro H locs hP hD hS
        replace hP := k_w2 (wt := [(kX10 aTr aLa aPa aGe gL gR lf rt 1 0 (kAt 39 f7 ((5 * p1) + (0 : Int32))) (kAt 39 f7 ((5 * p1) + (1 : Int32))) tbe twe tle tan tco ten), (kX3 gL u0 u1 u2 u3), (kX3 gR v0 v1 v2 v3), (kX4 aLa vLa l4 a4 n4), (kAI vLa cI 24 f4), (kAI vGe cI 23 f2), (kX2 aGe vGe l2 a2 n2), (kX7 aPa vPa l7 a7 n7), (kAI vPa cI 39 f7)]) hP hD rfl
        replace hD := hP.2
        replace hP := hP.1
        refine lv_aload_n hx₀ hb dX10_board_80 rfl (lv_at hl 0 rfl) ?_
        refine lv_iconst (v := 5) hx₀ hb dX10_board_81 (by decide +kernel) ?_
        refine lv_aload_n hx₀ hb dX10_board_82 rfl (lv_at hl 0 rfl) ?_
        refine va_get (D := (dC, dI)) (ci := 9) (v := .ref aPa) (C := RX10) (T := TX10) (N := 17) hx₀ hb hts inlX10 hown hK hP 0 rfl rfl 1 (by decide) (hts (.fieldLink RX10 31 "BittenStick$Trip" "passengers" "LBittenStick$Passengers;") wd_90) (fun _ h9 => h9) rfl dX10_board_83 ?_
        refine lv_iload_n hx₀ hb dX10_board_86 rfl (lv_at hl 1 rfl) ?_
        refine lv_iconst (v := 2) hx₀ hb dX10_board_87 (by decide +kernel) ?_
        obtain ⟨hPc, hDc, hFc, hC⟩ := k_cw (wc := [(kX7 aPa vPa l7 a7 n7), (kAI vPa cI 39 f7)]) hP hD hS hA [7, 8] (by decide +kernel) rfl
        refine va_calli (va_runV (As := [.int p1, .int 2]) (rest := [.int 5, .ref aTr]) ⟨hx₀, hb, hml, hown, hts⟩ (j_toldP l dC dI cI cJ cQ H.size aPa p1 2 vPa l7 a7 n7 f7) (cwV 2 hts (kGV wd_311 wd_464 wd_309 wd_310 wd_18) rfl rfl rfl (by decide +kernel) ⟨Nat.le_of_ble_eq_true rfl, Nat.le_of_ble_eq_true rfl⟩) (k_preV7 (q0 := 0) hK hPc hDc hN rfl) rfl rfl hl.1 rfl (lv_room (Nat.le_of_ble_eq_true rfl)) dX10_board_88 ⟨by decide +kernel, by decide +kernel⟩) hS (fun q _ h => hFc q h) hFc (fun r_9 u₀ t₀ H1 locs ht hvm hw hB hz1 hk1 hS => ?_)
        obtain ⟨hP1, hK1, hD1⟩ := hB
        rw [ht] at hP1
        have hJ := k_jn (wr := [(kX10 aTr aLa aPa aGe gL gR lf rt 1 0 (kAt 39 f7 ((5 * p1) + (0 : Int32))) (kAt 39 f7 ((5 * p1) + (1 : Int32))) tbe twe tle tan tco ten), (kX3 gL u0 u1 u2 u3), (kX3 gR v0 v1 v2 v3), (kX4 aLa vLa l4 a4 n4), (kAI vLa cI 24 f4), (kAI vGe cI 23 f2), (kX2 aGe vGe l2 a2 n2)]) (wt := [(kX10 aTr aLa aPa aGe gL gR lf rt 1 0 (kAt 39 f7 ((5 * p1) + (0 : Int32))) (kAt 39 f7 ((5 * p1) + (1 : Int32))) tbe twe tle tan tco ten), (kX3 gL u0 u1 u2 u3), (kX3 gR v0 v1 v2 v3), (kX4 aLa vLa l4 a4 n4), (kAI vLa cI 24 f4), (kAI vGe cI 23 f2), (kX2 aGe vGe l2 a2 n2), (kX7 aPa vPa l7 a7 n7), (kAI vPa cI 39 f7)]) hP hD hC [0, 1, 2, 3, 4, 5, 6] rfl (by decide +kernel) (by decide +kernel) hk1 hFc hP1 hD1 rfl
        clear hP hD hPc hDc hFc hC hP1 hD1 hK1 hz1 hk1 hvm ht
        obtain ⟨hP, hD⟩ := hJ
        generalize H1 = H at hP hS ⊢
        try dsimp only at hw
        refine k_topi (v := kAt 39 f7 ((5 * p1) + (2 : Int32))) hw ?_
        refine lv_imul hx₀ hb dX10_board_91 ?_
        refine va_put (D := (dC, dI)) (ci := 9) (v := .int (5 * (kAt 39 f7 ((5 * p1) + (2 : Int32))))) (ty := .int) (C := RX10) (T := TX10) (N := 17) hx₀ hb hts inlX10 tyX10 tyX10_ok nmX10 hown hK hP hD hS 0 rfl rfl 11 (by decide) (hts (.fieldLink RX10 66 "BittenStick$Trip" "bears" "I") wd_457) (fun _ h9 => h9) rfl (by decide +kernel) rfl rfl (Nat.le_of_ble_eq_true rfl) dX10_board_92 ?_
        clear hP hD hS
        intro H locs hP hD hS
        replace hP := k_w2 (wt := [(kX10 aTr aLa aPa aGe gL gR lf rt 1 0 (kAt 39 f7 ((5 * p1) + (0 : Int32))) (kAt 39 f7 ((5 * p1) + (1 : Int32))) (5 * (kAt 39 f7 ((5 * p1) + (2 : Int32)))) twe tle tan tco ten), (kX3 gL u0 u1 u2 u3), (kX3 gR v0 v1 v2 v3), (kX4 aLa vLa l4 a4 n4), (kAI vLa cI 24 f4), (kAI vGe cI 23 f2), (kX2 aGe vGe l2 a2 n2), (kX7 aPa vPa l7 a7 n7), (kAI vPa cI 39 f7)]) hP hD rfl
        replace hD := hP.2
        replace hP := hP.1
        refine lv_aload_n hx₀ hb dX10_board_95 rfl (lv_at hl 0 rfl) ?_
        refine lv_aload_n hx₀ hb dX10_board_96 rfl (lv_at hl 0 rfl) ?_
        refine va_get (D := (dC, dI)) (ci := 9) (v := .ref aPa) (C := RX10) (T := TX10) (N := 17) hx₀ hb hts inlX10 hown hK hP 0 rfl rfl 1 (by decide) (hts (.fieldLink RX10 31 "BittenStick$Trip" "passengers" "LBittenStick$Passengers;") wd_90) (fun _ h9 => h9) rfl dX10_board_97 ?_
        refine lv_iload_n hx₀ hb dX10_board_100 rfl (lv_at hl 1 rfl) ?_
        refine lv_iconst (v := 3) hx₀ hb dX10_board_101 (by decide +kernel) ?_
        obtain ⟨hPc, hDc, hFc, hC⟩ := k_cw (wc := [(kX7 aPa vPa l7 a7 n7), (kAI vPa cI 39 f7)]) hP hD hS hA [7, 8] (by decide +kernel) rfl
        refine va_calli (va_runV (As := [.int p1, .int 3]) (rest := [.ref aTr]) ⟨hx₀, hb, hml, hown, hts⟩ (j_toldP l dC dI cI cJ cQ H.size aPa p1 3 vPa l7 a7 n7 f7) (cwV 2 hts (kGV wd_311 wd_464 wd_309 wd_310 wd_18) rfl rfl rfl (by decide +kernel) ⟨Nat.le_of_ble_eq_true rfl, Nat.le_of_ble_eq_true rfl⟩) (k_preV7 (q0 := 0) hK hPc hDc hN rfl) rfl rfl hl.1 rfl (lv_room (Nat.le_of_ble_eq_true rfl)) dX10_board_102 ⟨by decide +kernel, by decide +kernel⟩) hS (fun q _ h => hFc q h) hFc (fun r_10 u₀ t₀ H1 locs ht hvm hw hB hz1 hk1 hS => ?_)
        obtain ⟨hP1, hK1, hD1⟩ := hB
        rw [ht] at hP1
        have hJ := k_jn (wr := [(kX10 aTr aLa aPa aGe gL gR lf rt 1 0 (kAt 39 f7 ((5 * p1) + (0 : Int32))) (kAt 39 f7 ((5 * p1) + (1 : Int32))) (5 * (kAt 39 f7 ((5 * p1) + (2 : Int32)))) twe tle tan tco ten), (kX3 gL u0 u1 u2 u3), (kX3 gR v0 v1 v2 v3), (kX4 aLa vLa l4 a4 n4), (kAI vLa cI 24 f4), (kAI vGe cI 23 f2), (kX2 aGe vGe l2 a2 n2)]) (wt := [(kX10 aTr aLa aPa aGe gL gR lf rt 1 0 (kAt 39 f7 ((5 * p1) + (0 : Int32))) (kAt 39 f7 ((5 * p1) + (1 : Int32))) (5 * (kAt 39 f7 ((5 * p1) + (2 : Int32)))) twe tle tan tco ten), (kX3 gL u0 u1 u2 u3), (kX3 gR v0 v1 v2 v3), (kX4 aLa vLa l4 a4 n4), (kAI vLa cI 24 f4), (kAI vGe cI 23 f2), (kX2 aGe vGe l2 a2 n2), (kX7 aPa vPa l7 a7 n7), (kAI vPa cI 39 f7)]) hP hD hC [0, 1, 2, 3, 4, 5, 6] rfl (by decide +kernel) (by decide +kernel) hk1 hFc hP1 hD1 rfl
        clear hP hD hPc hDc hFc hC hP1 hD1 hK1 hz1 hk1 hvm ht
        obtain ⟨hP, hD⟩ := hJ
        generalize H1 = H at hP hS ⊢
        try dsimp only at hw
        refine k_topi (v := kAt 39 f7 ((5 * p1) + (3 : Int32))) hw ?_
        refine va_put (D := (dC, dI)) (ci := 9) (v := .int (kAt 39 f7 ((5 * p1) + (3 : Int32)))) (ty := .int) (C := RX10) (T := TX10) (N := 17) hx₀ hb hts inlX10 tyX10 tyX10_ok nmX10 hown hK hP hD hS 0 rfl rfl 12 (by decide) (hts (.fieldLink RX10 69 "BittenStick$Trip" "weight" "I") wd_458) (fun _ h9 => h9) rfl (by decide +kernel) rfl rfl (Nat.le_of_ble_eq_true rfl) dX10_board_105 ?_
        clear hP hD hS
        intro H locs hP hD hS
        replace hP := k_w2 (wt := [(kX10 aTr aLa aPa aGe gL gR lf rt 1 0 (kAt 39 f7 ((5 * p1) + (0 : Int32))) (kAt 39 f7 ((5 * p1) + (1 : Int32))) (5 * (kAt 39 f7 ((5 * p1) + (2 : Int32)))) (kAt 39 f7 ((5 * p1) + (3 : Int32))) tle tan tco ten), (kX3 gL u0 u1 u2 u3), (kX3 gR v0 v1 v2 v3), (kX4 aLa vLa l4 a4 n4), (kAI vLa cI 24 f4), (kAI vGe cI 23 f2), (kX2 aGe vGe l2 a2 n2), (kX7 aPa vPa l7 a7 n7), (kAI vPa cI 39 f7)]) hP hD rfl
        replace hD := hP.2
        replace hP := hP.1
        refine lv_aload_n hx₀ hb dX10_board_108 rfl (lv_at hl 0 rfl) ?_
        refine va_get (D := (dC, dI)) (ci := 9) (v := .ref gL) (C := RX10) (T := TX10) (N := 17) hx₀ hb hts inlX10 hown hK hP 0 rfl rfl 3 (by decide) (hts (.fieldLink RX10 12 "BittenStick$Trip" "toldLeft" "LBittenStick$Goose;") wd_85) (fun _ h9 => h9) rfl dX10_board_109 ?_
        refine lv_aload_n hx₀ hb dX10_board_112 rfl (lv_at hl 0 rfl) ?_
        refine va_get (D := (dC, dI)) (ci := 9) (v := .ref aGe) (C := RX10) (T := TX10) (N := 17) hx₀ hb hts inlX10 hown hK hP 0 rfl rfl 2 (by decide) (hts (.fieldLink RX10 35 "BittenStick$Trip" "geese" "LBittenStick$Geese;") wd_91) (fun _ h9 => h9) rfl dX10_board_113 ?_
        refine lv_iload_n hx₀ hb dX10_board_116 rfl (lv_at hl 2 rfl) ?_
        refine lv_iconst (v := 0) hx₀ hb dX10_board_117 (by decide +kernel) ?_
        obtain ⟨hPc, hDc, hFc, hC⟩ := k_cw (wc := [(kX2 aGe vGe l2 a2 n2), (kAI vGe cI 23 f2)]) hP hD hS hA [6, 5] (by decide +kernel) rfl
        refine va_calli (va_runV (As := [.int q1, .int 0]) (rest := [.ref gL]) ⟨hx₀, hb, hml, hown, hts⟩ (j_toldG l dC dI cI cJ cQ H.size aGe q1 0 vGe l2 a2 n2 f2) (cwV 2 hts (kGV wd_334 wd_465 wd_332 wd_333 wd_22) rfl rfl rfl (by decide +kernel) ⟨Nat.le_of_ble_eq_true rfl, Nat.le_of_ble_eq_true rfl⟩) (k_preV2 (q0 := 0) hK hPc hDc hN rfl) rfl rfl hl.1 rfl (lv_room (Nat.le_of_ble_eq_true rfl)) dX10_board_118 ⟨by decide +kernel, by decide +kernel⟩) hS (fun q _ h => hFc q h) hFc (fun r_11 u₀ t₀ H1 locs ht hvm hw hB hz1 hk1 hS => ?_)
        obtain ⟨hP1, hK1, hD1⟩ := hB
        rw [ht] at hP1
        have hJ := k_jn (wr := [(kX10 aTr aLa aPa aGe gL gR lf rt 1 0 (kAt 39 f7 ((5 * p1) + (0 : Int32))) (kAt 39 f7 ((5 * p1) + (1 : Int32))) (5 * (kAt 39 f7 ((5 * p1) + (2 : Int32)))) (kAt 39 f7 ((5 * p1) + (3 : Int32))) tle tan tco ten), (kX3 gL u0 u1 u2 u3), (kX3 gR v0 v1 v2 v3), (kX4 aLa vLa l4 a4 n4), (kAI vLa cI 24 f4), (kX7 aPa vPa l7 a7 n7), (kAI vPa cI 39 f7)]) (wt := [(kX10 aTr aLa aPa aGe gL gR lf rt 1 0 (kAt 39 f7 ((5 * p1) + (0 : Int32))) (kAt 39 f7 ((5 * p1) + (1 : Int32))) (5 * (kAt 39 f7 ((5 * p1) + (2 : Int32)))) (kAt 39 f7 ((5 * p1) + (3 : Int32))) tle tan tco ten), (kX3 gL u0 u1 u2 u3), (kX3 gR v0 v1 v2 v3), (kX4 aLa vLa l4 a4 n4), (kAI vLa cI 24 f4), (kX7 aPa vPa l7 a7 n7), (kAI vPa cI 39 f7), (kX2 aGe vGe l2 a2 n2), (kAI vGe cI 23 f2)]) hP hD hC [0, 1, 2, 3, 4, 7, 8] rfl (by decide +kernel) (by decide +kernel) hk1 hFc hP1 hD1 rfl
        clear hP hD hPc hDc hFc hC hP1 hD1 hK1 hz1 hk1 hvm ht
        obtain ⟨hP, hD⟩ := hJ
        generalize H1 = H at hP hS ⊢
        try dsimp only at hw
        refine k_topi (v := kAt 23 f2 ((3 * q1) + (0 : Int32))) hw ?_
        refine va_put (D := (dC, dI)) (ci := 3) (v := .int (kAt 23 f2 ((3 * q1) + (0 : Int32)))) (ty := .int) (C := RX3) (T := TX3) (N := 4) hx₀ hb hts inlX3 tyX3 tyX3_ok nmX3 hown hK hP hD hS 1 rfl rfl 0 (by decide) (hts (.fieldLink RX10 73 "BittenStick$Goose" "told" "I") wd_459) (fun _ h9 => h9) rfl (by decide +kernel) rfl rfl (Nat.le_of_ble_eq_true rfl) dX10_board_121 ?_
        clear hP hD hS
        intro H locs hP hD hS
        replace hP := k_w2 (wt := [(kX10 aTr aLa aPa aGe gL gR lf rt 1 0 (kAt 39 f7 ((5 * p1) + (0 : Int32))) (kAt 39 f7 ((5 * p1) + (1 : Int32))) (5 * (kAt 39 f7 ((5 * p1) + (2 : Int32)))) (kAt 39 f7 ((5 * p1) + (3 : Int32))) tle tan tco ten), (kX3 gL (kAt 23 f2 ((3 * q1) + (0 : Int32))) u1 u2 u3), (kX3 gR v0 v1 v2 v3), (kX4 aLa vLa l4 a4 n4), (kAI vLa cI 24 f4), (kX7 aPa vPa l7 a7 n7), (kAI vPa cI 39 f7), (kX2 aGe vGe l2 a2 n2), (kAI vGe cI 23 f2)]) hP hD rfl
        replace hD := hP.2
        replace hP := hP.1
        refine lv_aload_n hx₀ hb dX10_board_124 rfl (lv_at hl 0 rfl) ?_
        refine va_get (D := (dC, dI)) (ci := 9) (v := .ref gL) (C := RX10) (T := TX10) (N := 17) hx₀ hb hts inlX10 hown hK hP 0 rfl rfl 3 (by decide) (hts (.fieldLink RX10 12 "BittenStick$Trip" "toldLeft" "LBittenStick$Goose;") wd_85) (fun _ h9 => h9) rfl dX10_board_125 ?_
        refine lv_aload_n hx₀ hb dX10_board_128 rfl (lv_at hl 0 rfl) ?_
        refine va_get (D := (dC, dI)) (ci := 9) (v := .ref aGe) (C := RX10) (T := TX10) (N := 17) hx₀ hb hts inlX10 hown hK hP 0 rfl rfl 2 (by decide) (hts (.fieldLink RX10 35 "BittenStick$Trip" "geese" "LBittenStick$Geese;") wd_91) (fun _ h9 => h9) rfl dX10_board_129 ?_
        refine lv_iload_n hx₀ hb dX10_board_132 rfl (lv_at hl 2 rfl) ?_
        refine lv_iconst (v := 1) hx₀ hb dX10_board_133 (by decide +kernel) ?_
        obtain ⟨hPc, hDc, hFc, hC⟩ := k_cw (wc := [(kX2 aGe vGe l2 a2 n2), (kAI vGe cI 23 f2)]) hP hD hS hA [7, 8] (by decide +kernel) rfl
        refine va_calli (va_runV (As := [.int q1, .int 1]) (rest := [.ref gL]) ⟨hx₀, hb, hml, hown, hts⟩ (j_toldG l dC dI cI cJ cQ H.size aGe q1 1 vGe l2 a2 n2 f2) (cwV 2 hts (kGV wd_334 wd_465 wd_332 wd_333 wd_22) rfl rfl rfl (by decide +kernel) ⟨Nat.le_of_ble_eq_true rfl, Nat.le_of_ble_eq_true rfl⟩) (k_preV2 (q0 := 0) hK hPc hDc hN rfl) rfl rfl hl.1 rfl (lv_room (Nat.le_of_ble_eq_true rfl)) dX10_board_134 ⟨by decide +kernel, by decide +kernel⟩) hS (fun q _ h => hFc q h) hFc (fun r_12 u₀ t₀ H1 locs ht hvm hw hB hz1 hk1 hS => ?_)
        obtain ⟨hP1, hK1, hD1⟩ := hB
        rw [ht] at hP1
        have hJ := k_jn (wr := [(kX10 aTr aLa aPa aGe gL gR lf rt 1 0 (kAt 39 f7 ((5 * p1) + (0 : Int32))) (kAt 39 f7 ((5 * p1) + (1 : Int32))) (5 * (kAt 39 f7 ((5 * p1) + (2 : Int32)))) (kAt 39 f7 ((5 * p1) + (3 : Int32))) tle tan tco ten), (kX3 gL (kAt 23 f2 ((3 * q1) + (0 : Int32))) u1 u2 u3), (kX3 gR v0 v1 v2 v3), (kX4 aLa vLa l4 a4 n4), (kAI vLa cI 24 f4), (kX7 aPa vPa l7 a7 n7), (kAI vPa cI 39 f7)]) (wt := [(kX10 aTr aLa aPa aGe gL gR lf rt 1 0 (kAt 39 f7 ((5 * p1) + (0 : Int32))) (kAt 39 f7 ((5 * p1) + (1 : Int32))) (5 * (kAt 39 f7 ((5 * p1) + (2 : Int32)))) (kAt 39 f7 ((5 * p1) + (3 : Int32))) tle tan tco ten), (kX3 gL (kAt 23 f2 ((3 * q1) + (0 : Int32))) u1 u2 u3), (kX3 gR v0 v1 v2 v3), (kX4 aLa vLa l4 a4 n4), (kAI vLa cI 24 f4), (kX7 aPa vPa l7 a7 n7), (kAI vPa cI 39 f7), (kX2 aGe vGe l2 a2 n2), (kAI vGe cI 23 f2)]) hP hD hC [0, 1, 2, 3, 4, 5, 6] rfl (by decide +kernel) (by decide +kernel) hk1 hFc hP1 hD1 rfl
        clear hP hD hPc hDc hFc hC hP1 hD1 hK1 hz1 hk1 hvm ht
        obtain ⟨hP, hD⟩ := hJ
        generalize H1 = H at hP hS ⊢
        try dsimp only at hw
        refine k_topi (v := kAt 23 f2 ((3 * q1) + (1 : Int32))) hw ?_
        refine va_put (D := (dC, dI)) (ci := 3) (v := .int (kAt 23 f2 ((3 * q1) + (1 : Int32)))) (ty := .int) (C := RX3) (T := TX3) (N := 4) hx₀ hb hts inlX3 tyX3 tyX3_ok nmX3 hown hK hP hD hS 1 rfl rfl 1 (by decide) (hts (.fieldLink RX10 75 "BittenStick$Goose" "tires" "I") wd_460) (fun _ h9 => h9) rfl (by decide +kernel) rfl rfl (Nat.le_of_ble_eq_true rfl) dX10_board_137 ?_
        clear hP hD hS
        intro H locs hP hD hS
        replace hP := k_w2 (wt := [(kX10 aTr aLa aPa aGe gL gR lf rt 1 0 (kAt 39 f7 ((5 * p1) + (0 : Int32))) (kAt 39 f7 ((5 * p1) + (1 : Int32))) (5 * (kAt 39 f7 ((5 * p1) + (2 : Int32)))) (kAt 39 f7 ((5 * p1) + (3 : Int32))) tle tan tco ten), (kX3 gL (kAt 23 f2 ((3 * q1) + (0 : Int32))) (kAt 23 f2 ((3 * q1) + (1 : Int32))) u2 u3), (kX3 gR v0 v1 v2 v3), (kX4 aLa vLa l4 a4 n4), (kAI vLa cI 24 f4), (kX7 aPa vPa l7 a7 n7), (kAI vPa cI 39 f7), (kX2 aGe vGe l2 a2 n2), (kAI vGe cI 23 f2)]) hP hD rfl
        replace hD := hP.2
        replace hP := hP.1
        refine lv_aload_n hx₀ hb dX10_board_140 rfl (lv_at hl 0 rfl) ?_
        refine va_get (D := (dC, dI)) (ci := 9) (v := .ref gR) (C := RX10) (T := TX10) (N := 17) hx₀ hb hts inlX10 hown hK hP 0 rfl rfl 4 (by decide) (hts (.fieldLink RX10 18 "BittenStick$Trip" "toldRight" "LBittenStick$Goose;") wd_86) (fun _ h9 => h9) rfl dX10_board_141 ?_
        refine lv_aload_n hx₀ hb dX10_board_144 rfl (lv_at hl 0 rfl) ?_
        refine va_get (D := (dC, dI)) (ci := 9) (v := .ref aGe) (C := RX10) (T := TX10) (N := 17) hx₀ hb hts inlX10 hown hK hP 0 rfl rfl 2 (by decide) (hts (.fieldLink RX10 35 "BittenStick$Trip" "geese" "LBittenStick$Geese;") wd_91) (fun _ h9 => h9) rfl dX10_board_145 ?_
        refine lv_iload_n hx₀ hb dX10_board_148 rfl (lv_at hl 3 rfl) ?_
        refine lv_iconst (v := 0) hx₀ hb dX10_board_149 (by decide +kernel) ?_
        obtain ⟨hPc, hDc, hFc, hC⟩ := k_cw (wc := [(kX2 aGe vGe l2 a2 n2), (kAI vGe cI 23 f2)]) hP hD hS hA [7, 8] (by decide +kernel) rfl
        refine va_calli (va_runV (As := [.int r1, .int 0]) (rest := [.ref gR]) ⟨hx₀, hb, hml, hown, hts⟩ (j_toldG l dC dI cI cJ cQ H.size aGe r1 0 vGe l2 a2 n2 f2) (cwV 2 hts (kGV wd_334 wd_465 wd_332 wd_333 wd_22) rfl rfl rfl (by decide +kernel) ⟨Nat.le_of_ble_eq_true rfl, Nat.le_of_ble_eq_true rfl⟩) (k_preV2 (q0 := 0) hK hPc hDc hN rfl) rfl rfl hl.1 rfl (lv_room (Nat.le_of_ble_eq_true rfl)) dX10_board_150 ⟨by decide +kernel, by decide +kernel⟩) hS (fun q _ h => hFc q h) hFc (fun r_13 u₀ t₀ H1 locs ht hvm hw hB hz1 hk1 hS => ?_)
        obtain ⟨hP1, hK1, hD1⟩ := hB
        rw [ht] at hP1
        have hJ := k_jn (wr := [(kX10 aTr aLa aPa aGe gL gR lf rt 1 0 (kAt 39 f7 ((5 * p1) + (0 : Int32))) (kAt 39 f7 ((5 * p1) + (1 : Int32))) (5 * (kAt 39 f7 ((5 * p1) + (2 : Int32)))) (kAt 39 f7 ((5 * p1) + (3 : Int32))) tle tan tco ten), (kX3 gL (kAt 23 f2 ((3 * q1) + (0 : Int32))) (kAt 23 f2 ((3 * q1) + (1 : Int32))) u2 u3), (kX3 gR v0 v1 v2 v3), (kX4 aLa vLa l4 a4 n4), (kAI vLa cI 24 f4), (kX7 aPa vPa l7 a7 n7), (kAI vPa cI 39 f7)]) (wt := [(kX10 aTr aLa aPa aGe gL gR lf rt 1 0 (kAt 39 f7 ((5 * p1) + (0 : Int32))) (kAt 39 f7 ((5 * p1) + (1 : Int32))) (5 * (kAt 39 f7 ((5 * p1) + (2 : Int32)))) (kAt 39 f7 ((5 * p1) + (3 : Int32))) tle tan tco ten), (kX3 gL (kAt 23 f2 ((3 * q1) + (0 : Int32))) (kAt 23 f2 ((3 * q1) + (1 : Int32))) u2 u3), (kX3 gR v0 v1 v2 v3), (kX4 aLa vLa l4 a4 n4), (kAI vLa cI 24 f4), (kX7 aPa vPa l7 a7 n7), (kAI vPa cI 39 f7), (kX2 aGe vGe l2 a2 n2), (kAI vGe cI 23 f2)]) hP hD hC [0, 1, 2, 3, 4, 5, 6] rfl (by decide +kernel) (by decide +kernel) hk1 hFc hP1 hD1 rfl
        clear hP hD hPc hDc hFc hC hP1 hD1 hK1 hz1 hk1 hvm ht
        obtain ⟨hP, hD⟩ := hJ
        generalize H1 = H at hP hS ⊢
        try dsimp only at hw
        refine k_topi (v := kAt 23 f2 ((3 * r1) + (0 : Int32))) hw ?_
        refine va_put (D := (dC, dI)) (ci := 3) (v := .int (kAt 23 f2 ((3 * r1) + (0 : Int32)))) (ty := .int) (C := RX3) (T := TX3) (N := 4) hx₀ hb hts inlX3 tyX3 tyX3_ok nmX3 hown hK hP hD hS 2 rfl rfl 0 (by decide) (hts (.fieldLink RX10 73 "BittenStick$Goose" "told" "I") wd_459) (fun _ h9 => h9) rfl (by decide +kernel) rfl rfl (Nat.le_of_ble_eq_true rfl) dX10_board_153 ?_
        clear hP hD hS
        intro H locs hP hD hS
        replace hP := k_w2 (wt := [(kX10 aTr aLa aPa aGe gL gR lf rt 1 0 (kAt 39 f7 ((5 * p1) + (0 : Int32))) (kAt 39 f7 ((5 * p1) + (1 : Int32))) (5 * (kAt 39 f7 ((5 * p1) + (2 : Int32)))) (kAt 39 f7 ((5 * p1) + (3 : Int32))) tle tan tco ten), (kX3 gL (kAt 23 f2 ((3 * q1) + (0 : Int32))) (kAt 23 f2 ((3 * q1) + (1 : Int32))) u2 u3), (kX3 gR (kAt 23 f2 ((3 * r1) + (0 : Int32))) v1 v2 v3), (kX4 aLa vLa l4 a4 n4), (kAI vLa cI 24 f4), (kX7 aPa vPa l7 a7 n7), (kAI vPa cI 39 f7), (kX2 aGe vGe l2 a2 n2), (kAI vGe cI 23 f2)]) hP hD rfl
        replace hD := hP.2
        replace hP := hP.1
        refine lv_aload_n hx₀ hb dX10_board_156 rfl (lv_at hl 0 rfl) ?_
        refine va_get (D := (dC, dI)) (ci := 9) (v := .ref gR) (C := RX10) (T := TX10) (N := 17) hx₀ hb hts inlX10 hown hK hP 0 rfl rfl 4 (by decide) (hts (.fieldLink RX10 18 "BittenStick$Trip" "toldRight" "LBittenStick$Goose;") wd_86) (fun _ h9 => h9) rfl dX10_board_157 ?_
        refine lv_aload_n hx₀ hb dX10_board_160 rfl (lv_at hl 0 rfl) ?_
        refine va_get (D := (dC, dI)) (ci := 9) (v := .ref aGe) (C := RX10) (T := TX10) (N := 17) hx₀ hb hts inlX10 hown hK hP 0 rfl rfl 2 (by decide) (hts (.fieldLink RX10 35 "BittenStick$Trip" "geese" "LBittenStick$Geese;") wd_91) (fun _ h9 => h9) rfl dX10_board_161 ?_
        refine lv_iload_n hx₀ hb dX10_board_164 rfl (lv_at hl 3 rfl) ?_
        refine lv_iconst (v := 1) hx₀ hb dX10_board_165 (by decide +kernel) ?_
        obtain ⟨hPc, hDc, hFc, hC⟩ := k_cw (wc := [(kX2 aGe vGe l2 a2 n2), (kAI vGe cI 23 f2)]) hP hD hS hA [7, 8] (by decide +kernel) rfl
        refine va_calli (va_runV (As := [.int r1, .int 1]) (rest := [.ref gR]) ⟨hx₀, hb, hml, hown, hts⟩ (j_toldG l dC dI cI cJ cQ H.size aGe r1 1 vGe l2 a2 n2 f2) (cwV 2 hts (kGV wd_334 wd_465 wd_332 wd_333 wd_22) rfl rfl rfl (by decide +kernel) ⟨Nat.le_of_ble_eq_true rfl, Nat.le_of_ble_eq_true rfl⟩) (k_preV2 (q0 := 0) hK hPc hDc hN rfl) rfl rfl hl.1 rfl (lv_room (Nat.le_of_ble_eq_true rfl)) dX10_board_166 ⟨by decide +kernel, by decide +kernel⟩) hS (fun q _ h => hFc q h) hFc (fun r_14 u₀ t₀ H1 locs ht hvm hw hB hz1 hk1 hS => ?_)
        obtain ⟨hP1, hK1, hD1⟩ := hB
        rw [ht] at hP1
        have hJ := k_jn (wr := [(kX10 aTr aLa aPa aGe gL gR lf rt 1 0 (kAt 39 f7 ((5 * p1) + (0 : Int32))) (kAt 39 f7 ((5 * p1) + (1 : Int32))) (5 * (kAt 39 f7 ((5 * p1) + (2 : Int32)))) (kAt 39 f7 ((5 * p1) + (3 : Int32))) tle tan tco ten), (kX3 gL (kAt 23 f2 ((3 * q1) + (0 : Int32))) (kAt 23 f2 ((3 * q1) + (1 : Int32))) u2 u3), (kX3 gR (kAt 23 f2 ((3 * r1) + (0 : Int32))) v1 v2 v3), (kX4 aLa vLa l4 a4 n4), (kAI vLa cI 24 f4), (kX7 aPa vPa l7 a7 n7), (kAI vPa cI 39 f7)]) (wt := [(kX10 aTr aLa aPa aGe gL gR lf rt 1 0 (kAt 39 f7 ((5 * p1) + (0 : Int32))) (kAt 39 f7 ((5 * p1) + (1 : Int32))) (5 * (kAt 39 f7 ((5 * p1) + (2 : Int32)))) (kAt 39 f7 ((5 * p1) + (3 : Int32))) tle tan tco ten), (kX3 gL (kAt 23 f2 ((3 * q1) + (0 : Int32))) (kAt 23 f2 ((3 * q1) + (1 : Int32))) u2 u3), (kX3 gR (kAt 23 f2 ((3 * r1) + (0 : Int32))) v1 v2 v3), (kX4 aLa vLa l4 a4 n4), (kAI vLa cI 24 f4), (kX7 aPa vPa l7 a7 n7), (kAI vPa cI 39 f7), (kX2 aGe vGe l2 a2 n2), (kAI vGe cI 23 f2)]) hP hD hC [0, 1, 2, 3, 4, 5, 6] rfl (by decide +kernel) (by decide +kernel) hk1 hFc hP1 hD1 rfl
        clear hP hD hPc hDc hFc hC hP1 hD1 hK1 hz1 hk1 hvm ht
        obtain ⟨hP, hD⟩ := hJ
        generalize H1 = H at hP hS ⊢
        try dsimp only at hw
        refine k_topi (v := kAt 23 f2 ((3 * r1) + (1 : Int32))) hw ?_
        refine va_put (D := (dC, dI)) (ci := 3) (v := .int (kAt 23 f2 ((3 * r1) + (1 : Int32)))) (ty := .int) (C := RX3) (T := TX3) (N := 4) hx₀ hb hts inlX3 tyX3 tyX3_ok nmX3 hown hK hP hD hS 2 rfl rfl 1 (by decide) (hts (.fieldLink RX10 75 "BittenStick$Goose" "tires" "I") wd_460) (fun _ h9 => h9) rfl (by decide +kernel) rfl rfl (Nat.le_of_ble_eq_true rfl) dX10_board_169 ?_
        clear hP hD hS
        intro H locs hP hD hS
        replace hP := k_w2 (wt := [(kX10 aTr aLa aPa aGe gL gR lf rt 1 0 (kAt 39 f7 ((5 * p1) + (0 : Int32))) (kAt 39 f7 ((5 * p1) + (1 : Int32))) (5 * (kAt 39 f7 ((5 * p1) + (2 : Int32)))) (kAt 39 f7 ((5 * p1) + (3 : Int32))) tle tan tco ten), (kX3 gL (kAt 23 f2 ((3 * q1) + (0 : Int32))) (kAt 23 f2 ((3 * q1) + (1 : Int32))) u2 u3), (kX3 gR (kAt 23 f2 ((3 * r1) + (0 : Int32))) (kAt 23 f2 ((3 * r1) + (1 : Int32))) v2 v3), (kX4 aLa vLa l4 a4 n4), (kAI vLa cI 24 f4), (kX7 aPa vPa l7 a7 n7), (kAI vPa cI 39 f7), (kX2 aGe vGe l2 a2 n2), (kAI vGe cI 23 f2)]) hP hD rfl
        replace hD := hP.2
        replace hP := hP.1
        refine lv_aload_n hx₀ hb dX10_board_172 rfl (lv_at hl 0 rfl) ?_
        refine lv_aload_n hx₀ hb dX10_board_173 rfl (lv_at hl 0 rfl) ?_
        refine lv_aload_n hx₀ hb dX10_board_174 rfl (lv_at hl 0 rfl) ?_
        refine va_get (D := (dC, dI)) (ci := 9) (v := .ref aLa) (C := RX10) (T := TX10) (N := 17) hx₀ hb hts inlX10 hown hK hP 0 rfl rfl 0 (by decide) (hts (.fieldLink RX10 27 "BittenStick$Trip" "land" "LBittenStick$Land;") wd_89) (fun _ h9 => h9) rfl dX10_board_175 ?_
        refine va_get (D := (dC, dI)) (ci := 4) (v := .int n4) (C := RX4) (T := TX4) (N := 4) hx₀ hb hts inlX4 hown hK hP 3 rfl rfl 3 (by decide) (hts (.fieldLink RX10 78 "BittenStick$Land" "number" "I") wd_461) (fun x9 h9 => u_same (hts (.sameField "BittenStick$Land" "BittenStick$Text" "number" "I") wd_286) x9 h9) rfl dX10_board_178 ?_
        refine lv_iconst (v := 1) hx₀ hb dX10_board_181 (by decide +kernel) ?_
        refine lv_isub hx₀ hb dX10_board_182 ?_
        refine lv_iconst (v := 1) hx₀ hb dX10_board_183 (by decide +kernel) ?_
        obtain ⟨hPc, hDc, hFc, hC⟩ := k_cw (wc := [(kX10 aTr aLa aPa aGe gL gR lf rt 1 0 (kAt 39 f7 ((5 * p1) + (0 : Int32))) (kAt 39 f7 ((5 * p1) + (1 : Int32))) (5 * (kAt 39 f7 ((5 * p1) + (2 : Int32)))) (kAt 39 f7 ((5 * p1) + (3 : Int32))) tle tan tco ten), (kX3 gL (kAt 23 f2 ((3 * q1) + (0 : Int32))) (kAt 23 f2 ((3 * q1) + (1 : Int32))) u2 u3), (kX3 gR (kAt 23 f2 ((3 * r1) + (0 : Int32))) (kAt 23 f2 ((3 * r1) + (1 : Int32))) v2 v3), (kX4 aLa vLa l4 a4 n4), (kAI vLa cI 24 f4)]) hP hD hS hA [0, 1, 2, 3, 4] (by decide +kernel) rfl
        refine va_calli (va_runV (As := [.int (n4 - 1), .int 1]) (rest := [.ref aTr]) ⟨hx₀, hb, hml, hown, hts⟩ (e_flyGeese l dC dI cI cJ cQ H.size aTr (n4 - 1) 1 aLa aPa aGe gL gR lf rt 1 0 (kAt 39 f7 ((5 * p1) + (0 : Int32))) (kAt 39 f7 ((5 * p1) + (1 : Int32))) (5 * (kAt 39 f7 ((5 * p1) + (2 : Int32)))) (kAt 39 f7 ((5 * p1) + (3 : Int32))) tle tan tco ten (kAt 23 f2 ((3 * q1) + (0 : Int32))) (kAt 23 f2 ((3 * q1) + (1 : Int32))) u2 u3 (kAt 23 f2 ((3 * r1) + (0 : Int32))) (kAt 23 f2 ((3 * r1) + (1 : Int32))) v2 v3 vLa l4 a4 n4 f4 (lf_e_board_1 n4 hh0)) (cwV 2 hts (kGV wd_469 wd_466 wd_467 wd_468 wd_30) rfl rfl rfl (by decide +kernel) ⟨Nat.le_of_ble_eq_true rfl, Nat.le_of_ble_eq_true rfl⟩) (k_preV9 (q0 := 0) hK hPc hDc hN rfl) rfl rfl hl.1 rfl (lv_room (Nat.le_of_ble_eq_true rfl)) dX10_board_184 ⟨by decide +kernel, by decide +kernel⟩) hS (fun q _ h => hFc q h) hFc (fun r_15 u₀ t₀ H1 locs ht hvm hw hB hz1 hk1 hS => ?_)
        obtain ⟨g_16, ga_17, gl_18, gb_19, gp_20⟩ := u₀
        obtain ⟨hP1, hK1, hD1⟩ := hB
        rw [ht] at hP1
        have hJ := k_jn (wr := [(kX7 aPa vPa l7 a7 n7), (kAI vPa cI 39 f7), (kX2 aGe vGe l2 a2 n2), (kAI vGe cI 23 f2)]) (wt := [(kX7 aPa vPa l7 a7 n7), (kAI vPa cI 39 f7), (kX2 aGe vGe l2 a2 n2), (kAI vGe cI 23 f2), (kX10 aTr aLa aPa aGe gL gR (gp_20 0) (gp_20 1) 1 0 (kAt 39 f7 ((5 * p1) + (0 : Int32))) (kAt 39 f7 ((5 * p1) + (1 : Int32))) (5 * (kAt 39 f7 ((5 * p1) + (2 : Int32)))) (kAt 39 f7 ((5 * p1) + (3 : Int32))) tle tan tco ten), (kX3 gL (kAt 23 f2 ((3 * q1) + (0 : Int32))) (kAt 23 f2 ((3 * q1) + (1 : Int32))) (g_16 0) (g_16 1)), (kX3 gR (kAt 23 f2 ((3 * r1) + (0 : Int32))) (kAt 23 f2 ((3 * r1) + (1 : Int32))) (g_16 2) (g_16 3)), (kX4 aLa vLa l4 a4 n4), (kAI vLa cI 24 f4)]) hP hD hC [5, 6, 7, 8] rfl (by decide +kernel) (by decide +kernel) hk1 hFc hP1 hD1 rfl
        clear hP hD hPc hDc hFc hC hP1 hD1 hK1 hz1 hk1 hvm ht
        obtain ⟨hP, hD⟩ := hJ
        generalize H1 = H at hP hS ⊢
        try dsimp only at hw
        obtain ⟨c_21, c_22⟩ := hw
        refine va_put (D := (dC, dI)) (ci := 9) (v := .int r_15) (ty := .int) (C := RX10) (T := TX10) (N := 17) hx₀ hb hts inlX10 tyX10 tyX10_ok nmX10 hown hK hP hD hS 4 rfl rfl 8 (by decide) (hts (.fieldLink RX10 52 "BittenStick$Trip" "carriedTo" "I") wd_454) (fun _ h9 => h9) rfl (by decide +kernel) rfl rfl (Nat.le_of_ble_eq_true rfl) dX10_board_187 ?_
        clear hP hD hS
        intro H locs hP hD hS
        replace hP := k_w2 (wt := [(kX7 aPa vPa l7 a7 n7), (kAI vPa cI 39 f7), (kX2 aGe vGe l2 a2 n2), (kAI vGe cI 23 f2), (kX10 aTr aLa aPa aGe gL gR (gp_20 0) (gp_20 1) 1 r_15 (kAt 39 f7 ((5 * p1) + (0 : Int32))) (kAt 39 f7 ((5 * p1) + (1 : Int32))) (5 * (kAt 39 f7 ((5 * p1) + (2 : Int32)))) (kAt 39 f7 ((5 * p1) + (3 : Int32))) tle tan tco ten), (kX3 gL (kAt 23 f2 ((3 * q1) + (0 : Int32))) (kAt 23 f2 ((3 * q1) + (1 : Int32))) (g_16 0) (g_16 1)), (kX3 gR (kAt 23 f2 ((3 * r1) + (0 : Int32))) (kAt 23 f2 ((3 * r1) + (1 : Int32))) (g_16 2) (g_16 3)), (kX4 aLa vLa l4 a4 n4), (kAI vLa cI 24 f4)]) hP hD rfl
        replace hD := hP.2
        replace hP := hP.1
        obtain ⟨hP9, hD9⟩ := k_c2 (wc := [(kX10 aTr aLa aPa aGe gL gR (gp_20 0) (gp_20 1) 1 r_15 (kAt 39 f7 ((5 * p1) + (0 : Int32))) (kAt 39 f7 ((5 * p1) + (1 : Int32))) (5 * (kAt 39 f7 ((5 * p1) + (2 : Int32)))) (kAt 39 f7 ((5 * p1) + (3 : Int32))) tle tan tco ten), (kX3 gL (kAt 23 f2 ((3 * q1) + (0 : Int32))) (kAt 23 f2 ((3 * q1) + (1 : Int32))) (g_16 0) (g_16 1)), (kX3 gR (kAt 23 f2 ((3 * r1) + (0 : Int32))) (kAt 23 f2 ((3 * r1) + (1 : Int32))) (g_16 2) (g_16 3)), (kX4 aLa vLa l4 a4 n4), (kAI vLa cI 24 f4), (kX7 aPa vPa l7 a7 n7), (kAI vPa cI 39 f7), (kX2 aGe vGe l2 a2 n2), (kAI vGe cI 23 f2)]) hP hD [4, 5, 6, 7, 8, 0, 1, 2, 3] (by decide +kernel) rfl
        exact W.vret hx₀ hb hr (fun t₀ ht hW => ⟨⟨(k_fn [(kAt 23 f2 ((3 * q1) + (0 : Int32))), (kAt 23 f2 ((3 * q1) + (1 : Int32))), (g_16 0), (g_16 1), (kAt 23 f2 ((3 * r1) + (0 : Int32))), (kAt 23 f2 ((3 * r1) + (1 : Int32))), (g_16 2), (g_16 3), (1 : Int32), r_15, (kAt 39 f7 ((5 * p1) + (0 : Int32))), (kAt 39 f7 ((5 * p1) + (1 : Int32))), (5 * (kAt 39 f7 ((5 * p1) + (2 : Int32)))), (kAt 39 f7 ((5 * p1) + (3 : Int32)))], k_fa [], k_fl [], k_fL [], k_fp [(gp_20 0), (gp_20 1)]), rfl, ⟨(if_pos (show (0 ≤ p1 ∧ p1 < n7) ∧ (0 ≤ q1 ∧ q1 < n2) ∧ 0 ≤ r1 ∧ r1 < n2 from ⟨⟨c_2.1, c_2.2⟩, ⟨c_4.1, c_4.2⟩, c_6.1, c_6.2⟩)).symm, ((c_21.trans (by rw [show (n4 - 1 + 1 : Int32) = n4 from Int32.sub_add_cancel n4 1])).trans (if_pos (show (0 ≤ p1 ∧ p1 < n7) ∧ (0 ≤ q1 ∧ q1 < n2) ∧ 0 ≤ r1 ∧ r1 < n2 from ⟨⟨c_2.1, c_2.2⟩, ⟨c_4.1, c_4.2⟩, c_6.1, c_6.2⟩)).symm), (if_pos (show (0 ≤ p1 ∧ p1 < n7) ∧ (0 ≤ q1 ∧ q1 < n2) ∧ 0 ≤ r1 ∧ r1 < n2 from ⟨⟨c_2.1, c_2.2⟩, ⟨c_4.1, c_4.2⟩, c_6.1, c_6.2⟩)).symm, (if_pos (show (0 ≤ p1 ∧ p1 < n7) ∧ (0 ≤ q1 ∧ q1 < n2) ∧ 0 ≤ r1 ∧ r1 < n2 from ⟨⟨c_2.1, c_2.2⟩, ⟨c_4.1, c_4.2⟩, c_6.1, c_6.2⟩)).symm, (if_pos (show (0 ≤ p1 ∧ p1 < n7) ∧ (0 ≤ q1 ∧ q1 < n2) ∧ 0 ≤ r1 ∧ r1 < n2 from ⟨⟨c_2.1, c_2.2⟩, ⟨c_4.1, c_4.2⟩, c_6.1, c_6.2⟩)).symm, (if_pos (show (0 ≤ p1 ∧ p1 < n7) ∧ (0 ≤ q1 ∧ q1 < n2) ∧ 0 ≤ r1 ∧ r1 < n2 from ⟨⟨c_2.1, c_2.2⟩, ⟨c_4.1, c_4.2⟩, c_6.1, c_6.2⟩)).symm, (if_pos (show (0 ≤ p1 ∧ p1 < n7) ∧ (0 ≤ q1 ∧ q1 < n2) ∧ 0 ≤ r1 ∧ r1 < n2 from ⟨⟨c_2.1, c_2.2⟩, ⟨c_4.1, c_4.2⟩, c_6.1, c_6.2⟩)).symm, (if_pos (show (0 ≤ p1 ∧ p1 < n7) ∧ (0 ≤ q1 ∧ q1 < n2) ∧ 0 ≤ r1 ∧ r1 < n2 from ⟨⟨c_2.1, c_2.2⟩, ⟨c_4.1, c_4.2⟩, c_6.1, c_6.2⟩)).symm, (if_pos (show (0 ≤ p1 ∧ p1 < n7) ∧ (0 ≤ q1 ∧ q1 < n2) ∧ 0 ≤ r1 ∧ r1 < n2 from ⟨⟨c_2.1, c_2.2⟩, ⟨c_4.1, c_4.2⟩, c_6.1, c_6.2⟩)).symm, (if_pos (show (0 ≤ p1 ∧ p1 < n7) ∧ (0 ≤ q1 ∧ q1 < n2) ∧ 0 ≤ r1 ∧ r1 < n2 from ⟨⟨c_2.1, c_2.2⟩, ⟨c_4.1, c_4.2⟩, c_6.1, c_6.2⟩)).symm⟩, by rw [ht]; exact hP9, va_K.moved hW.alike hK, hD9⟩, hS.F ht⟩) hS.2.2 dX10_board_190
      rw [if_neg c_6] at hw
      refine k_topi (v := 0) hw ?_
      refine lv_if_eq (tgt := 38) hx₀ hb dX10_board_31 (by decide) (fun _ => ?_) (fun c9 => absurd (by decide +kernel) c9)
      refine lv_iconst (v := 0) hx₀ hb dX10_board_38 (by decide +kernel) ?_
      refine va_put (D := (dC, dI)) (ci := 9) (v := .int 0) (ty := .boolean) (C := RX10) (T := TX10) (N := 17) hx₀ hb hts inlX10 tyX10 tyX10_ok nmX10 hown hK hP hD hS 0 rfl rfl 7 (by decide) (hts (.fieldLink RX10 48 "BittenStick$Trip" "goes" "Z") wd_453) (fun _ h9 => h9) rfl (by decide +kernel) (by decide +kernel) (by decide +kernel) (Nat.le_of_ble_eq_true rfl) dX10_board_39 ?_
      clear hP hD hS
      intro H locs hP hD hS
      replace hP := k_w2 (wt := [(kX10 aTr aLa aPa aGe gL gR lf rt 0 tca tki tso tbe twe tle tan tco ten), (kX3 gL u0 u1 u2 u3), (kX3 gR v0 v1 v2 v3), (kX4 aLa vLa l4 a4 n4), (kAI vLa cI 24 f4), (kAI vPa cI 39 f7), (kAI vGe cI 23 f2), (kX7 aPa vPa l7 a7 n7), (kX2 aGe vGe l2 a2 n2)]) hP hD rfl
      replace hD := hP.2
      replace hP := hP.1
      refine lv_aload_n hx₀ hb dX10_board_42 rfl (lv_at hl 0 rfl) ?_
      refine lv_iconst (v := 0) hx₀ hb dX10_board_43 (by decide +kernel) ?_
      refine va_put (D := (dC, dI)) (ci := 9) (v := .int 0) (ty := .int) (C := RX10) (T := TX10) (N := 17) hx₀ hb hts inlX10 tyX10 tyX10_ok nmX10 hown hK hP hD hS 0 rfl rfl 8 (by decide) (hts (.fieldLink RX10 52 "BittenStick$Trip" "carriedTo" "I") wd_454) (fun _ h9 => h9) rfl (by decide +kernel) rfl rfl (Nat.le_of_ble_eq_true rfl) dX10_board_44 ?_
      clear hP hD hS
      intro H locs hP hD hS
      replace hP := k_w2 (wt := [(kX10 aTr aLa aPa aGe gL gR lf rt 0 0 tki tso tbe twe tle tan tco ten), (kX3 gL u0 u1 u2 u3), (kX3 gR v0 v1 v2 v3), (kX4 aLa vLa l4 a4 n4), (kAI vLa cI 24 f4), (kAI vPa cI 39 f7), (kAI vGe cI 23 f2), (kX7 aPa vPa l7 a7 n7), (kX2 aGe vGe l2 a2 n2)]) hP hD rfl
      replace hD := hP.2
      replace hP := hP.1
      refine lv_aload_n hx₀ hb dX10_board_47 rfl (lv_at hl 0 rfl) ?_
      refine va_get (D := (dC, dI)) (ci := 9) (v := .int 0) (C := RX10) (T := TX10) (N := 17) hx₀ hb hts inlX10 hown hK hP 0 rfl rfl 7 (by decide) (hts (.fieldLink RX10 48 "BittenStick$Trip" "goes" "Z") wd_453) (fun _ h9 => h9) rfl dX10_board_48 ?_
      refine lv_if_eq (tgt := 190) hx₀ hb dX10_board_51 (by decide) (fun _ => ?_) (fun c9 => absurd (by decide +kernel) c9)
      obtain ⟨hP9, hD9⟩ := k_c2 (wc := [(kX10 aTr aLa aPa aGe gL gR lf rt 0 0 tki tso tbe twe tle tan tco ten), (kX3 gL u0 u1 u2 u3), (kX3 gR v0 v1 v2 v3), (kX4 aLa vLa l4 a4 n4), (kAI vLa cI 24 f4), (kX7 aPa vPa l7 a7 n7), (kAI vPa cI 39 f7), (kX2 aGe vGe l2 a2 n2), (kAI vGe cI 23 f2)]) hP hD [0, 1, 2, 3, 4, 7, 5, 8, 6] (by decide +kernel) rfl
      exact W.vret hx₀ hb hr (fun t₀ ht hW => ⟨⟨(k_fn [u0, u1, u2, u3, v0, v1, v2, v3, (0 : Int32), (0 : Int32), tki, tso, tbe, twe], k_fa [], k_fl [], k_fL [], k_fp [lf, rt]), rfl, ⟨(if_neg (show ¬ ((0 ≤ p1 ∧ p1 < n7) ∧ (0 ≤ q1 ∧ q1 < n2) ∧ 0 ≤ r1 ∧ r1 < n2) from (fun z => c_6 (And.intro z.2.2.1 z.2.2.2)))).symm, (if_neg (show ¬ ((0 ≤ p1 ∧ p1 < n7) ∧ (0 ≤ q1 ∧ q1 < n2) ∧ 0 ≤ r1 ∧ r1 < n2) from (fun z => c_6 (And.intro z.2.2.1 z.2.2.2)))).symm, (if_neg (show ¬ ((0 ≤ p1 ∧ p1 < n7) ∧ (0 ≤ q1 ∧ q1 < n2) ∧ 0 ≤ r1 ∧ r1 < n2) from (fun z => c_6 (And.intro z.2.2.1 z.2.2.2)))).symm, (if_neg (show ¬ ((0 ≤ p1 ∧ p1 < n7) ∧ (0 ≤ q1 ∧ q1 < n2) ∧ 0 ≤ r1 ∧ r1 < n2) from (fun z => c_6 (And.intro z.2.2.1 z.2.2.2)))).symm, (if_neg (show ¬ ((0 ≤ p1 ∧ p1 < n7) ∧ (0 ≤ q1 ∧ q1 < n2) ∧ 0 ≤ r1 ∧ r1 < n2) from (fun z => c_6 (And.intro z.2.2.1 z.2.2.2)))).symm, (if_neg (show ¬ ((0 ≤ p1 ∧ p1 < n7) ∧ (0 ≤ q1 ∧ q1 < n2) ∧ 0 ≤ r1 ∧ r1 < n2) from (fun z => c_6 (And.intro z.2.2.1 z.2.2.2)))).symm, (if_neg (show ¬ ((0 ≤ p1 ∧ p1 < n7) ∧ (0 ≤ q1 ∧ q1 < n2) ∧ 0 ≤ r1 ∧ r1 < n2) from (fun z => c_6 (And.intro z.2.2.1 z.2.2.2)))).symm, (if_neg (show ¬ ((0 ≤ p1 ∧ p1 < n7) ∧ (0 ≤ q1 ∧ q1 < n2) ∧ 0 ≤ r1 ∧ r1 < n2) from (fun z => c_6 (And.intro z.2.2.1 z.2.2.2)))).symm, (if_neg (show ¬ ((0 ≤ p1 ∧ p1 < n7) ∧ (0 ≤ q1 ∧ q1 < n2) ∧ 0 ≤ r1 ∧ r1 < n2) from (fun z => c_6 (And.intro z.2.2.1 z.2.2.2)))).symm, (if_neg (show ¬ ((0 ≤ p1 ∧ p1 < n7) ∧ (0 ≤ q1 ∧ q1 < n2) ∧ 0 ≤ r1 ∧ r1 < n2) from (fun z => c_6 (And.intro z.2.2.1 z.2.2.2)))).symm⟩, by rw [ht]; exact hP9, va_K.moved hW.alike hK, hD9⟩, hS.F ht⟩) hS.2.2 dX10_board_190
    rw [if_neg c_4] at hw
    refine k_topi (v := 0) hw ?_
    refine lv_if_eq (tgt := 38) hx₀ hb dX10_board_20 (by decide) (fun _ => ?_) (fun c9 => absurd (by decide +kernel) c9)
    refine lv_iconst (v := 0) hx₀ hb dX10_board_38 (by decide +kernel) ?_
    refine va_put (D := (dC, dI)) (ci := 9) (v := .int 0) (ty := .boolean) (C := RX10) (T := TX10) (N := 17) hx₀ hb hts inlX10 tyX10 tyX10_ok nmX10 hown hK hP hD hS 0 rfl rfl 7 (by decide) (hts (.fieldLink RX10 48 "BittenStick$Trip" "goes" "Z") wd_453) (fun _ h9 => h9) rfl (by decide +kernel) (by decide +kernel) (by decide +kernel) (Nat.le_of_ble_eq_true rfl) dX10_board_39 ?_
    clear hP hD hS
    intro H locs hP hD hS
    replace hP := k_w2 (wt := [(kX10 aTr aLa aPa aGe gL gR lf rt 0 tca tki tso tbe twe tle tan tco ten), (kX3 gL u0 u1 u2 u3), (kX3 gR v0 v1 v2 v3), (kX4 aLa vLa l4 a4 n4), (kAI vLa cI 24 f4), (kAI vPa cI 39 f7), (kAI vGe cI 23 f2), (kX7 aPa vPa l7 a7 n7), (kX2 aGe vGe l2 a2 n2)]) hP hD rfl
    replace hD := hP.2
    replace hP := hP.1
    refine lv_aload_n hx₀ hb dX10_board_42 rfl (lv_at hl 0 rfl) ?_
    refine lv_iconst (v := 0) hx₀ hb dX10_board_43 (by decide +kernel) ?_
    refine va_put (D := (dC, dI)) (ci := 9) (v := .int 0) (ty := .int) (C := RX10) (T := TX10) (N := 17) hx₀ hb hts inlX10 tyX10 tyX10_ok nmX10 hown hK hP hD hS 0 rfl rfl 8 (by decide) (hts (.fieldLink RX10 52 "BittenStick$Trip" "carriedTo" "I") wd_454) (fun _ h9 => h9) rfl (by decide +kernel) rfl rfl (Nat.le_of_ble_eq_true rfl) dX10_board_44 ?_
    clear hP hD hS
    intro H locs hP hD hS
    replace hP := k_w2 (wt := [(kX10 aTr aLa aPa aGe gL gR lf rt 0 0 tki tso tbe twe tle tan tco ten), (kX3 gL u0 u1 u2 u3), (kX3 gR v0 v1 v2 v3), (kX4 aLa vLa l4 a4 n4), (kAI vLa cI 24 f4), (kAI vPa cI 39 f7), (kAI vGe cI 23 f2), (kX7 aPa vPa l7 a7 n7), (kX2 aGe vGe l2 a2 n2)]) hP hD rfl
    replace hD := hP.2
    replace hP := hP.1
    refine lv_aload_n hx₀ hb dX10_board_47 rfl (lv_at hl 0 rfl) ?_
    refine va_get (D := (dC, dI)) (ci := 9) (v := .int 0) (C := RX10) (T := TX10) (N := 17) hx₀ hb hts inlX10 hown hK hP 0 rfl rfl 7 (by decide) (hts (.fieldLink RX10 48 "BittenStick$Trip" "goes" "Z") wd_453) (fun _ h9 => h9) rfl dX10_board_48 ?_
    refine lv_if_eq (tgt := 190) hx₀ hb dX10_board_51 (by decide) (fun _ => ?_) (fun c9 => absurd (by decide +kernel) c9)
    obtain ⟨hP9, hD9⟩ := k_c2 (wc := [(kX10 aTr aLa aPa aGe gL gR lf rt 0 0 tki tso tbe twe tle tan tco ten), (kX3 gL u0 u1 u2 u3), (kX3 gR v0 v1 v2 v3), (kX4 aLa vLa l4 a4 n4), (kAI vLa cI 24 f4), (kX7 aPa vPa l7 a7 n7), (kAI vPa cI 39 f7), (kX2 aGe vGe l2 a2 n2), (kAI vGe cI 23 f2)]) hP hD [0, 1, 2, 3, 4, 7, 5, 8, 6] (by decide +kernel) rfl
    exact W.vret hx₀ hb hr (fun t₀ ht hW => ⟨⟨(k_fn [u0, u1, u2, u3, v0, v1, v2, v3, (0 : Int32), (0 : Int32), tki, tso, tbe, twe], k_fa [], k_fl [], k_fL [], k_fp [lf, rt]), rfl, ⟨(if_neg (show ¬ ((0 ≤ p1 ∧ p1 < n7) ∧ (0 ≤ q1 ∧ q1 < n2) ∧ 0 ≤ r1 ∧ r1 < n2) from (fun z => c_4 z.2.1))).symm, (if_neg (show ¬ ((0 ≤ p1 ∧ p1 < n7) ∧ (0 ≤ q1 ∧ q1 < n2) ∧ 0 ≤ r1 ∧ r1 < n2) from (fun z => c_4 z.2.1))).symm, (if_neg (show ¬ ((0 ≤ p1 ∧ p1 < n7) ∧ (0 ≤ q1 ∧ q1 < n2) ∧ 0 ≤ r1 ∧ r1 < n2) from (fun z => c_4 z.2.1))).symm, (if_neg (show ¬ ((0 ≤ p1 ∧ p1 < n7) ∧ (0 ≤ q1 ∧ q1 < n2) ∧ 0 ≤ r1 ∧ r1 < n2) from (fun z => c_4 z.2.1))).symm, (if_neg (show ¬ ((0 ≤ p1 ∧ p1 < n7) ∧ (0 ≤ q1 ∧ q1 < n2) ∧ 0 ≤ r1 ∧ r1 < n2) from (fun z => c_4 z.2.1))).symm, (if_neg (show ¬ ((0 ≤ p1 ∧ p1 < n7) ∧ (0 ≤ q1 ∧ q1 < n2) ∧ 0 ≤ r1 ∧ r1 < n2) from (fun z => c_4 z.2.1))).symm, (if_neg (show ¬ ((0 ≤ p1 ∧ p1 < n7) ∧ (0 ≤ q1 ∧ q1 < n2) ∧ 0 ≤ r1 ∧ r1 < n2) from (fun z => c_4 z.2.1))).symm, (if_neg (show ¬ ((0 ≤ p1 ∧ p1 < n7) ∧ (0 ≤ q1 ∧ q1 < n2) ∧ 0 ≤ r1 ∧ r1 < n2) from (fun z => c_4 z.2.1))).symm, (if_neg (show ¬ ((0 ≤ p1 ∧ p1 < n7) ∧ (0 ≤ q1 ∧ q1 < n2) ∧ 0 ≤ r1 ∧ r1 < n2) from (fun z => c_4 z.2.1))).symm, (if_neg (show ¬ ((0 ≤ p1 ∧ p1 < n7) ∧ (0 ≤ q1 ∧ q1 < n2) ∧ 0 ≤ r1 ∧ r1 < n2) from (fun z => c_4 z.2.1))).symm⟩, by rw [ht]; exact hP9, va_K.moved hW.alike hK, hD9⟩, hS.F ht⟩) hS.2.2 dX10_board_190
  rw [if_neg c_2] at hw
  refine k_topi (v := 0) hw ?_
  refine lv_if_eq (tgt := 38) hx₀ hb dX10_board_9 (by decide) (fun _ => ?_) (fun c9 => absurd (by decide +kernel) c9)
  refine lv_iconst (v := 0) hx₀ hb dX10_board_38 (by decide +kernel) ?_
  refine va_put (D := (dC, dI)) (ci := 9) (v := .int 0) (ty := .boolean) (C := RX10) (T := TX10) (N := 17) hx₀ hb hts inlX10 tyX10 tyX10_ok nmX10 hown hK hP hD hS 0 rfl rfl 7 (by decide) (hts (.fieldLink RX10 48 "BittenStick$Trip" "goes" "Z") wd_453) (fun _ h9 => h9) rfl (by decide +kernel) (by decide +kernel) (by decide +kernel) (Nat.le_of_ble_eq_true rfl) dX10_board_39 ?_
  clear hP hD hS
  intro H locs hP hD hS
  replace hP := k_w2 (wt := [(kX10 aTr aLa aPa aGe gL gR lf rt 0 tca tki tso tbe twe tle tan tco ten), (kX3 gL u0 u1 u2 u3), (kX3 gR v0 v1 v2 v3), (kX4 aLa vLa l4 a4 n4), (kAI vLa cI 24 f4), (kAI vPa cI 39 f7), (kX2 aGe vGe l2 a2 n2), (kAI vGe cI 23 f2), (kX7 aPa vPa l7 a7 n7)]) hP hD rfl
  replace hD := hP.2
  replace hP := hP.1
  refine lv_aload_n hx₀ hb dX10_board_42 rfl (lv_at hl 0 rfl) ?_
  refine lv_iconst (v := 0) hx₀ hb dX10_board_43 (by decide +kernel) ?_
  refine va_put (D := (dC, dI)) (ci := 9) (v := .int 0) (ty := .int) (C := RX10) (T := TX10) (N := 17) hx₀ hb hts inlX10 tyX10 tyX10_ok nmX10 hown hK hP hD hS 0 rfl rfl 8 (by decide) (hts (.fieldLink RX10 52 "BittenStick$Trip" "carriedTo" "I") wd_454) (fun _ h9 => h9) rfl (by decide +kernel) rfl rfl (Nat.le_of_ble_eq_true rfl) dX10_board_44 ?_
  clear hP hD hS
  intro H locs hP hD hS
  replace hP := k_w2 (wt := [(kX10 aTr aLa aPa aGe gL gR lf rt 0 0 tki tso tbe twe tle tan tco ten), (kX3 gL u0 u1 u2 u3), (kX3 gR v0 v1 v2 v3), (kX4 aLa vLa l4 a4 n4), (kAI vLa cI 24 f4), (kAI vPa cI 39 f7), (kX2 aGe vGe l2 a2 n2), (kAI vGe cI 23 f2), (kX7 aPa vPa l7 a7 n7)]) hP hD rfl
  replace hD := hP.2
  replace hP := hP.1
  refine lv_aload_n hx₀ hb dX10_board_47 rfl (lv_at hl 0 rfl) ?_
  refine va_get (D := (dC, dI)) (ci := 9) (v := .int 0) (C := RX10) (T := TX10) (N := 17) hx₀ hb hts inlX10 hown hK hP 0 rfl rfl 7 (by decide) (hts (.fieldLink RX10 48 "BittenStick$Trip" "goes" "Z") wd_453) (fun _ h9 => h9) rfl dX10_board_48 ?_
  refine lv_if_eq (tgt := 190) hx₀ hb dX10_board_51 (by decide) (fun _ => ?_) (fun c9 => absurd (by decide +kernel) c9)
  obtain ⟨hP9, hD9⟩ := k_c2 (wc := [(kX10 aTr aLa aPa aGe gL gR lf rt 0 0 tki tso tbe twe tle tan tco ten), (kX3 gL u0 u1 u2 u3), (kX3 gR v0 v1 v2 v3), (kX4 aLa vLa l4 a4 n4), (kAI vLa cI 24 f4), (kX7 aPa vPa l7 a7 n7), (kAI vPa cI 39 f7), (kX2 aGe vGe l2 a2 n2), (kAI vGe cI 23 f2)]) hP hD [0, 1, 2, 3, 4, 8, 5, 6, 7] (by decide +kernel) rfl
  exact W.vret hx₀ hb hr (fun t₀ ht hW => ⟨⟨(k_fn [u0, u1, u2, u3, v0, v1, v2, v3, (0 : Int32), (0 : Int32), tki, tso, tbe, twe], k_fa [], k_fl [], k_fL [], k_fp [lf, rt]), rfl, ⟨(if_neg (show ¬ ((0 ≤ p1 ∧ p1 < n7) ∧ (0 ≤ q1 ∧ q1 < n2) ∧ 0 ≤ r1 ∧ r1 < n2) from (fun z => c_2 z.1))).symm, (if_neg (show ¬ ((0 ≤ p1 ∧ p1 < n7) ∧ (0 ≤ q1 ∧ q1 < n2) ∧ 0 ≤ r1 ∧ r1 < n2) from (fun z => c_2 z.1))).symm, (if_neg (show ¬ ((0 ≤ p1 ∧ p1 < n7) ∧ (0 ≤ q1 ∧ q1 < n2) ∧ 0 ≤ r1 ∧ r1 < n2) from (fun z => c_2 z.1))).symm, (if_neg (show ¬ ((0 ≤ p1 ∧ p1 < n7) ∧ (0 ≤ q1 ∧ q1 < n2) ∧ 0 ≤ r1 ∧ r1 < n2) from (fun z => c_2 z.1))).symm, (if_neg (show ¬ ((0 ≤ p1 ∧ p1 < n7) ∧ (0 ≤ q1 ∧ q1 < n2) ∧ 0 ≤ r1 ∧ r1 < n2) from (fun z => c_2 z.1))).symm, (if_neg (show ¬ ((0 ≤ p1 ∧ p1 < n7) ∧ (0 ≤ q1 ∧ q1 < n2) ∧ 0 ≤ r1 ∧ r1 < n2) from (fun z => c_2 z.1))).symm, (if_neg (show ¬ ((0 ≤ p1 ∧ p1 < n7) ∧ (0 ≤ q1 ∧ q1 < n2) ∧ 0 ≤ r1 ∧ r1 < n2) from (fun z => c_2 z.1))).symm, (if_neg (show ¬ ((0 ≤ p1 ∧ p1 < n7) ∧ (0 ≤ q1 ∧ q1 < n2) ∧ 0 ≤ r1 ∧ r1 < n2) from (fun z => c_2 z.1))).symm, (if_neg (show ¬ ((0 ≤ p1 ∧ p1 < n7) ∧ (0 ≤ q1 ∧ q1 < n2) ∧ 0 ≤ r1 ∧ r1 < n2) from (fun z => c_2 z.1))).symm, (if_neg (show ¬ ((0 ≤ p1 ∧ p1 < n7) ∧ (0 ≤ q1 ∧ q1 < n2) ∧ 0 ≤ r1 ∧ r1 < n2) from (fun z => c_2 z.1))).symm⟩, by rw [ht]; exact hP9, va_K.moved hW.alike hK, hD9⟩, hS.F ht⟩) hS.2.2 dX10_board_190
set_option maxHeartbeats 4000000 in
set_option maxRecDepth 100000 in
theorem e_prepare (l : Launch) (dC : Nat → ClassId) (dI : Nat → Nat → Nat) (cI cJ cQ : ClassId) (sz : Nat) (hx : Nat) (f1 : Int32) (aLa : Nat) (aPa : Nat) (aGe : Nat) (aFl : Nat) (aTr : Nat) (aBe : Nat) (aLu : Nat) (aLo : Nat) (vSf : Nat) (vSm : Nat) (vCo : Nat) (vSh : Nat) (xs : Int32) (xl : Int32) (xf : Int32) (gL : Nat) (gR : Nat) (lf : Nat) (rt : Nat) (tgo : Int32) (tca : Int32) (tki : Int32) (tso : Int32) (tbe : Int32) (twe : Int32) (tle : Int32) (tan : Int32) (tco : Int32) (ten : Int32) (u0 : Int32) (u1 : Int32) (u2 : Int32) (u3 : Int32) (v0 : Int32) (v1 : Int32) (v2 : Int32) (v3 : Int32) (vLa : Nat) (l4 : Int32) (a4 : Int32) (n4 : Int32) (f4 : Nat → Int32) (vPa : Nat) (l7 : Int32) (a7 : Int32) (n7 : Int32) (f7 : Nat → Int32) (vGe : Nat) (l2 : Int32) (a2 : Int32) (n2 : Int32) (f2 : Nat → Int32) (vFl : Nat) (xn : Int32) (ff : Nat → Int32) (hh0 : 0 ≤ n4 ∧ n4 ≤ 24) (hh1 : 0 ≤ xn ∧ xn ≤ 8) : Met l yX11_prepare (kW yX11_prepare cX11_prepare 2 none) { frames := 3, cells := 0, slots := 0, locals := 69 } (kPre dC dI cI cJ cQ sz [.ref hx, .int f1] [(kX11 hx aLa aPa aGe aFl aTr aBe aLu aLo vSf vSm vCo vSh xs xl xf), (kX10 aTr aLa aPa aGe gL gR lf rt tgo tca tki tso tbe twe tle tan tco ten), (kX3 gL u0 u1 u2 u3), (kX3 gR v0 v1 v2 v3), (kX4 aLa vLa l4 a4 n4), (kAI vLa cI 24 f4), (kX7 aPa vPa l7 a7 n7), (kAI vPa cI 39 f7), (kX2 aGe vGe l2 a2 n2), (kAI vGe cI 23 f2), (kX1 aFl vFl xn), (kAI vFl cI 32 ff)]) (va_Qv (fun (u : kS) => ((u.1 8) = if (0 ≤ (kIt xn ff f1 0) ∧ (kIt xn ff f1 0) < n7) ∧ (0 ≤ (kIt xn ff f1 1) ∧ (kIt xn ff f1 1) < n2) ∧ 0 ≤ (kIt xn ff f1 2) ∧ (kIt xn ff f1 2) < n2 then 1 else 0) ∧ ((u.1 9) = if (0 ≤ (kIt xn ff f1 0) ∧ (kIt xn ff f1 0) < n7) ∧ (0 ≤ (kIt xn ff f1 1) ∧ (kIt xn ff f1 1) < n2) ∧ 0 ≤ (kIt xn ff f1 2) ∧ (kIt xn ff f1 2) < n2 then kCt (kAt 24 f4) (kAt 39 f7 ((5 * (kIt xn ff f1 0)) + 3)) (kfu n4 0) 0 ((kAt 23 f2 ((3 * (kIt xn ff f1 1)) + 0), kAt 23 f2 ((3 * (kIt xn ff f1 1)) + 1), kAt 23 f2 ((3 * (kIt xn ff f1 1)) + 0), 0), (kAt 23 f2 ((3 * (kIt xn ff f1 2)) + 0), kAt 23 f2 ((3 * (kIt xn ff f1 2)) + 1), kAt 23 f2 ((3 * (kIt xn ff f1 2)) + 0), 0)) else 0) ∧ ((u.1 10) = if (0 ≤ (kIt xn ff f1 0) ∧ (kIt xn ff f1 0) < n7) ∧ (0 ≤ (kIt xn ff f1 1) ∧ (kIt xn ff f1 1) < n2) ∧ 0 ≤ (kIt xn ff f1 2) ∧ (kIt xn ff f1 2) < n2 then kAt 39 f7 ((5 * (kIt xn ff f1 0)) + 0) else tki) ∧ ((u.1 11) = if (0 ≤ (kIt xn ff f1 0) ∧ (kIt xn ff f1 0) < n7) ∧ (0 ≤ (kIt xn ff f1 1) ∧ (kIt xn ff f1 1) < n2) ∧ 0 ≤ (kIt xn ff f1 2) ∧ (kIt xn ff f1 2) < n2 then kAt 39 f7 ((5 * (kIt xn ff f1 0)) + 1) else tso) ∧ ((u.1 12) = if (0 ≤ (kIt xn ff f1 0) ∧ (kIt xn ff f1 0) < n7) ∧ (0 ≤ (kIt xn ff f1 1) ∧ (kIt xn ff f1 1) < n2) ∧ 0 ≤ (kIt xn ff f1 2) ∧ (kIt xn ff f1 2) < n2 then 5 * (kAt 39 f7 ((5 * (kIt xn ff f1 0)) + 2)) else tbe) ∧ ((u.1 13) = if (0 ≤ (kIt xn ff f1 0) ∧ (kIt xn ff f1 0) < n7) ∧ (0 ≤ (kIt xn ff f1 1) ∧ (kIt xn ff f1 1) < n2) ∧ 0 ≤ (kIt xn ff f1 2) ∧ (kIt xn ff f1 2) < n2 then kAt 39 f7 ((5 * (kIt xn ff f1 0)) + 3) else twe) ∧ ((u.1 0) = if (0 ≤ (kIt xn ff f1 0) ∧ (kIt xn ff f1 0) < n7) ∧ (0 ≤ (kIt xn ff f1 1) ∧ (kIt xn ff f1 1) < n2) ∧ 0 ≤ (kIt xn ff f1 2) ∧ (kIt xn ff f1 2) < n2 then kAt 23 f2 ((3 * (kIt xn ff f1 1)) + 0) else u0) ∧ ((u.1 1) = if (0 ≤ (kIt xn ff f1 0) ∧ (kIt xn ff f1 0) < n7) ∧ (0 ≤ (kIt xn ff f1 1) ∧ (kIt xn ff f1 1) < n2) ∧ 0 ≤ (kIt xn ff f1 2) ∧ (kIt xn ff f1 2) < n2 then kAt 23 f2 ((3 * (kIt xn ff f1 1)) + 1) else u1) ∧ ((u.1 4) = if (0 ≤ (kIt xn ff f1 0) ∧ (kIt xn ff f1 0) < n7) ∧ (0 ≤ (kIt xn ff f1 1) ∧ (kIt xn ff f1 1) < n2) ∧ 0 ≤ (kIt xn ff f1 2) ∧ (kIt xn ff f1 2) < n2 then kAt 23 f2 ((3 * (kIt xn ff f1 2)) + 0) else v0) ∧ ((u.1 5) = if (0 ≤ (kIt xn ff f1 0) ∧ (kIt xn ff f1 0) < n7) ∧ (0 ≤ (kIt xn ff f1 1) ∧ (kIt xn ff f1 1) < n2) ∧ 0 ≤ (kIt xn ff f1 2) ∧ (kIt xn ff f1 2) < n2 then kAt 23 f2 ((3 * (kIt xn ff f1 2)) + 1) else v1) ∧ ((u.1 14) = xl)) (fun (u : kS) t₀ => kB dC dI cI cJ cQ (va_A [(kX11 hx aLa aPa aGe aFl aTr aBe aLu aLo vSf vSm vCo vSh xs xl xf), (kX10 aTr aLa aPa aGe gL gR lf rt tgo tca tki tso tbe twe tle tan tco ten), (kX3 gL u0 u1 u2 u3), (kX3 gR v0 v1 v2 v3), (kX4 aLa vLa l4 a4 n4), (kAI vLa cI 24 f4), (kX7 aPa vPa l7 a7 n7), (kAI vPa cI 39 f7), (kX2 aGe vGe l2 a2 n2), (kAI vGe cI 23 f2), (kX1 aFl vFl xn), (kAI vFl cI 32 ff)] sz) [(kX11 hx aLa aPa aGe aFl aTr aBe aLu aLo vSf vSm vCo vSh xs xl xf), (kX10 aTr aLa aPa aGe gL gR (u.2.2.2.2 0) (u.2.2.2.2 1) (u.1 8) (u.1 9) (u.1 10) (u.1 11) (u.1 12) (u.1 13) (u.1 14) (u.1 15) (u.1 16) (u.1 17)), (kX3 gL (u.1 0) (u.1 1) (u.1 2) (u.1 3)), (kX3 gR (u.1 4) (u.1 5) (u.1 6) (u.1 7)), (kX4 aLa vLa l4 a4 n4), (kAI vLa cI 24 f4), (kX7 aPa vPa l7 a7 n7), (kAI vPa cI 39 f7), (kX2 aGe vGe l2 a2 n2), (kAI vGe cI 23 f2), (kX1 aFl vFl xn), (kAI vFl cI 32 ff)] t₀) (va_A [(kX11 hx aLa aPa aGe aFl aTr aBe aLu aLo vSf vSm vCo vSh xs xl xf), (kX10 aTr aLa aPa aGe gL gR lf rt tgo tca tki tso tbe twe tle tan tco ten), (kX3 gL u0 u1 u2 u3), (kX3 gR v0 v1 v2 v3), (kX4 aLa vLa l4 a4 n4), (kAI vLa cI 24 f4), (kX7 aPa vPa l7 a7 n7), (kAI vPa cI 39 f7), (kX2 aGe vGe l2 a2 n2), (kAI vGe cI 23 f2), (kX1 aFl vFl xn), (kAI vFl cI 32 ff)] sz)) 0 0 (va_A [(kX11 hx aLa aPa aGe aFl aTr aBe aLu aLo vSf vSm vCo vSh xs xl xf), (kX10 aTr aLa aPa aGe gL gR lf rt tgo tca tki tso tbe twe tle tan tco ten), (kX3 gL u0 u1 u2 u3), (kX3 gR v0 v1 v2 v3), (kX4 aLa vLa l4 a4 n4), (kAI vLa cI 24 f4), (kX7 aPa vPa l7 a7 n7), (kAI vPa cI 39 f7), (kX2 aGe vGe l2 a2 n2), (kAI vGe cI 23 f2), (kX1 aFl vFl xn), (kAI vFl cI 32 ff)] sz) := by
  refine Met.ofW (cc := cX11_prepare) (maxL := 2) (ret := none) (by decide) rfl ?_
  intro p₀ e₀ s₀ m₀ args below meth c₀ s₁ B hml hv₀
  obtain ⟨rfl, hsz, hP, hK, hD0, hN⟩ := hv₀
  have hx₀ := B.exec
  have hb := B.bytes
  have hr := B.returns
  have hts := atoms_spec (ws := (kW yX11_prepare cX11_prepare 2 none)) B.pre
  have hts := fun w h => hts w (List.mem_cons_of_mem _ h)
  have hown : s₀.vm.findClass RX11 = some m₀.cls := findClass_of_methodNamed B.named
  have hlocks := B.notSynchronized
  subst hsz
  have hD := hD0.self (sz := s₀.heap.size)
  generalize hAe : va_A [(kX11 hx aLa aPa aGe aFl aTr aBe aLu aLo vSf vSm vCo vSh xs xl xf), (kX10 aTr aLa aPa aGe gL gR lf rt tgo tca tki tso tbe twe tle tan tco ten), (kX3 gL u0 u1 u2 u3), (kX3 gR v0 v1 v2 v3), (kX4 aLa vLa l4 a4 n4), (kAI vLa cI 24 f4), (kX7 aPa vPa l7 a7 n7), (kAI vPa cI 39 f7), (kX2 aGe vGe l2 a2 n2), (kAI vGe cI 23 f2), (kX1 aFl vFl xn), (kAI vFl cI 32 ff)] s₀.heap.size = A at hD ⊢
  have hA : ∀ q : Nat, s₀.heap.size ≤ q → A q := fun q h => by rw [← hAe]; exact Or.inr h
  have hS : va_S A s₀.heap s₀.heap [] := va_S.rf
  have hP : va_P (dC, dI) vwCl [(kX11 hx aLa aPa aGe aFl aTr aBe aLu aLo vSf vSm vCo vSh xs xl xf), (kX10 aTr aLa aPa aGe gL gR lf rt tgo tca tki tso tbe twe tle tan tco ten), (kX3 gL u0 u1 u2 u3), (kX3 gR v0 v1 v2 v3), (kX4 aLa vLa l4 a4 n4), (kAI vLa cI 24 f4), (kX7 aPa vPa l7 a7 n7), (kAI vPa cI 39 f7), (kX2 aGe vGe l2 a2 n2), (kAI vGe cI 23 f2), (kX1 aFl vFl xn), (kAI vFl cI 32 ff)] s₀.heap := hP
  have hl := lv_entry ([.ref hx, .int f1]) (n := 2) (Nat.le_of_ble_eq_true rfl)
  rw [lg_entry_eq]
  generalize (lg_sl ([.ref hx, .int f1]) ++ List.replicate (2 - (lg_sl ([.ref hx, .int f1])).length) Slot.unset).toArray = ls at hl ⊢
  have hl : lv_has ls 2 [(0, .ref hx), (1, .int f1)] := hl
  obtain ⟨H, hH⟩ : ∃ z : Heap, z = s₀.heap := ⟨_, rfl⟩
  rw [← hH] at hP
  have hS : va_S A s₀.heap H [] := by rw [hH]; exact hS
  refine k_heap hH ?_
  have hD : va_D A [(kX11 hx aLa aPa aGe aFl aTr aBe aLu aLo vSf vSm vCo vSh xs xl xf), (kX10 aTr aLa aPa aGe gL gR lf rt tgo tca tki tso tbe twe tle tan tco ten), (kX3 gL u0 u1 u2 u3), (kX3 gR v0 v1 v2 v3), (kX4 aLa vLa l4 a4 n4), (kAI vLa cI 24 f4), (kX7 aPa vPa l7 a7 n7), (kAI vPa cI 39 f7), (kX2 aGe vGe l2 a2 n2), (kAI vGe cI 23 f2), (kX1 aFl vFl xn), (kAI vFl cI 32 ff)] := hD
  obtain ⟨locs, hlo⟩ : ∃ z : List Loc, z = [] := ⟨_, rfl⟩
  rw [← hlo] at hS ⊢
  clear hlo hH hAe hD0
  refine lv_aload_n hx₀ hb dX11_prepare_0 rfl (lv_at hl 0 rfl) ?_
  refine va_get (D := (dC, dI)) (ci := 10) (v := .ref aTr) (C := RX11) (T := TX11) (N := 15) hx₀ hb hts inlX11 hown hK hP 0 rfl rfl 4 (by decide) (hts (.fieldLink RX11 42 "BittenStick" "trip" "LBittenStick$Trip;") wd_31) (fun _ h9 => h9) rfl dX11_prepare_1 ?_
  refine lv_aload_n hx₀ hb dX11_prepare_4 rfl (lv_at hl 0 rfl) ?_
  refine va_get (D := (dC, dI)) (ci := 10) (v := .int xl) (C := RX11) (T := TX11) (N := 15) hx₀ hb hts inlX11 hown hK hP 0 rfl rfl 13 (by decide) (hts (.fieldLink RX11 146 "BittenStick" "learned" "I") wd_411) (fun _ h9 => h9) rfl dX11_prepare_5 ?_
  refine va_put (D := (dC, dI)) (ci := 9) (v := .int xl) (ty := .int) (C := RX10) (T := TX10) (N := 17) hx₀ hb hts inlX10 tyX10 tyX10_ok nmX10 hown hK hP hD hS 1 rfl rfl 13 (by decide) (hts (.fieldLink RX11 184 "BittenStick$Trip" "learned" "I") wd_431) (fun _ h9 => h9) rfl (by decide +kernel) rfl rfl (Nat.le_of_ble_eq_true rfl) dX11_prepare_8 ?_
  clear hP hD hS
  intro H locs hP hD hS
  replace hP := k_w2 (wt := [(kX11 hx aLa aPa aGe aFl aTr aBe aLu aLo vSf vSm vCo vSh xs xl xf), (kX10 aTr aLa aPa aGe gL gR lf rt tgo tca tki tso tbe twe xl tan tco ten), (kX3 gL u0 u1 u2 u3), (kX3 gR v0 v1 v2 v3), (kX4 aLa vLa l4 a4 n4), (kAI vLa cI 24 f4), (kX7 aPa vPa l7 a7 n7), (kAI vPa cI 39 f7), (kX2 aGe vGe l2 a2 n2), (kAI vGe cI 23 f2), (kX1 aFl vFl xn), (kAI vFl cI 32 ff)]) hP hD rfl
  replace hD := hP.2
  replace hP := hP.1
  refine lv_aload_n hx₀ hb dX11_prepare_11 rfl (lv_at hl 0 rfl) ?_
  refine va_get (D := (dC, dI)) (ci := 10) (v := .ref aTr) (C := RX11) (T := TX11) (N := 15) hx₀ hb hts inlX11 hown hK hP 0 rfl rfl 4 (by decide) (hts (.fieldLink RX11 42 "BittenStick" "trip" "LBittenStick$Trip;") wd_31) (fun _ h9 => h9) rfl dX11_prepare_12 ?_
  refine lv_aload_n hx₀ hb dX11_prepare_15 rfl (lv_at hl 0 rfl) ?_
  refine va_get (D := (dC, dI)) (ci := 10) (v := .ref aFl) (C := RX11) (T := TX11) (N := 15) hx₀ hb hts inlX11 hown hK hP 0 rfl rfl 3 (by decide) (hts (.fieldLink RX11 33 "BittenStick" "flights" "LBittenStick$Flights;") wd_27) (fun _ h9 => h9) rfl dX11_prepare_16 ?_
  refine lv_iload_n hx₀ hb dX11_prepare_19 rfl (lv_at hl 1 rfl) ?_
  obtain ⟨hPc, hDc, hFc, hC⟩ := k_cw (wc := [(kX1 aFl vFl xn), (kAI vFl cI 32 ff)]) hP hD hS hA [10, 11] (by decide +kernel) rfl
  refine va_calli (va_runV (As := [.int f1]) (rest := [.ref aTr]) ⟨hx₀, hb, hml, hown, hts⟩ (j_passengerOf l dC dI cI cJ cQ H.size aFl f1 vFl xn ff (hh1)) (cwV 1 hts (kGV wd_435 wd_432 wd_433 wd_434 wd_26) rfl rfl rfl (by decide +kernel) ⟨Nat.le_of_ble_eq_true rfl, Nat.le_of_ble_eq_true rfl⟩) (k_preV1 (q0 := 0) hK hPc hDc hN rfl) rfl rfl hl.1 rfl (lv_room (Nat.le_of_ble_eq_true rfl)) dX11_prepare_20 ⟨by decide +kernel, by decide +kernel⟩) hS (fun q _ h => hFc q h) hFc (fun r_1 u₀ t₀ H1 locs ht hvm hw hB hz1 hk1 hS => ?_)
  obtain ⟨hP1, hK1, hD1⟩ := hB
  rw [ht] at hP1
  have hJ := k_jn (wr := [(kX11 hx aLa aPa aGe aFl aTr aBe aLu aLo vSf vSm vCo vSh xs xl xf), (kX10 aTr aLa aPa aGe gL gR lf rt tgo tca tki tso tbe twe xl tan tco ten), (kX3 gL u0 u1 u2 u3), (kX3 gR v0 v1 v2 v3), (kX4 aLa vLa l4 a4 n4), (kAI vLa cI 24 f4), (kX7 aPa vPa l7 a7 n7), (kAI vPa cI 39 f7), (kX2 aGe vGe l2 a2 n2), (kAI vGe cI 23 f2)]) (wt := [(kX11 hx aLa aPa aGe aFl aTr aBe aLu aLo vSf vSm vCo vSh xs xl xf), (kX10 aTr aLa aPa aGe gL gR lf rt tgo tca tki tso tbe twe xl tan tco ten), (kX3 gL u0 u1 u2 u3), (kX3 gR v0 v1 v2 v3), (kX4 aLa vLa l4 a4 n4), (kAI vLa cI 24 f4), (kX7 aPa vPa l7 a7 n7), (kAI vPa cI 39 f7), (kX2 aGe vGe l2 a2 n2), (kAI vGe cI 23 f2), (kX1 aFl vFl xn), (kAI vFl cI 32 ff)]) hP hD hC [0, 1, 2, 3, 4, 5, 6, 7, 8, 9] rfl (by decide +kernel) (by decide +kernel) hk1 hFc hP1 hD1 rfl
  clear hP hD hPc hDc hFc hC hP1 hD1 hK1 hz1 hk1 hvm ht
  obtain ⟨hP, hD⟩ := hJ
  generalize H1 = H at hP hS ⊢
  try dsimp only at hw
  refine k_topi (v := kIt xn ff f1 0) hw ?_
  refine lv_aload_n hx₀ hb dX11_prepare_23 rfl (lv_at hl 0 rfl) ?_
  refine va_get (D := (dC, dI)) (ci := 10) (v := .ref aFl) (C := RX11) (T := TX11) (N := 15) hx₀ hb hts inlX11 hown hK hP 0 rfl rfl 3 (by decide) (hts (.fieldLink RX11 33 "BittenStick" "flights" "LBittenStick$Flights;") wd_27) (fun _ h9 => h9) rfl dX11_prepare_24 ?_
  refine lv_iload_n hx₀ hb dX11_prepare_27 rfl (lv_at hl 1 rfl) ?_
  obtain ⟨hPc, hDc, hFc, hC⟩ := k_cw (wc := [(kX1 aFl vFl xn), (kAI vFl cI 32 ff)]) hP hD hS hA [10, 11] (by decide +kernel) rfl
  refine va_calli (va_runV (As := [.int f1]) (rest := [.int (kIt xn ff f1 0), .ref aTr]) ⟨hx₀, hb, hml, hown, hts⟩ (j_leftOf l dC dI cI cJ cQ H.size aFl f1 vFl xn ff (hh1)) (cwV 1 hts (kGV wd_444 wd_441 wd_442 wd_443 wd_26) rfl rfl rfl (by decide +kernel) ⟨Nat.le_of_ble_eq_true rfl, Nat.le_of_ble_eq_true rfl⟩) (k_preV1 (q0 := 0) hK hPc hDc hN rfl) rfl rfl hl.1 rfl (lv_room (Nat.le_of_ble_eq_true rfl)) dX11_prepare_28 ⟨by decide +kernel, by decide +kernel⟩) hS (fun q _ h => hFc q h) hFc (fun r_2 u₀ t₀ H1 locs ht hvm hw hB hz1 hk1 hS => ?_)
  obtain ⟨hP1, hK1, hD1⟩ := hB
  rw [ht] at hP1
  have hJ := k_jn (wr := [(kX11 hx aLa aPa aGe aFl aTr aBe aLu aLo vSf vSm vCo vSh xs xl xf), (kX10 aTr aLa aPa aGe gL gR lf rt tgo tca tki tso tbe twe xl tan tco ten), (kX3 gL u0 u1 u2 u3), (kX3 gR v0 v1 v2 v3), (kX4 aLa vLa l4 a4 n4), (kAI vLa cI 24 f4), (kX7 aPa vPa l7 a7 n7), (kAI vPa cI 39 f7), (kX2 aGe vGe l2 a2 n2), (kAI vGe cI 23 f2)]) (wt := [(kX11 hx aLa aPa aGe aFl aTr aBe aLu aLo vSf vSm vCo vSh xs xl xf), (kX10 aTr aLa aPa aGe gL gR lf rt tgo tca tki tso tbe twe xl tan tco ten), (kX3 gL u0 u1 u2 u3), (kX3 gR v0 v1 v2 v3), (kX4 aLa vLa l4 a4 n4), (kAI vLa cI 24 f4), (kX7 aPa vPa l7 a7 n7), (kAI vPa cI 39 f7), (kX2 aGe vGe l2 a2 n2), (kAI vGe cI 23 f2), (kX1 aFl vFl xn), (kAI vFl cI 32 ff)]) hP hD hC [0, 1, 2, 3, 4, 5, 6, 7, 8, 9] rfl (by decide +kernel) (by decide +kernel) hk1 hFc hP1 hD1 rfl
  clear hP hD hPc hDc hFc hC hP1 hD1 hK1 hz1 hk1 hvm ht
  obtain ⟨hP, hD⟩ := hJ
  generalize H1 = H at hP hS ⊢
  try dsimp only at hw
  refine k_topi (v := kIt xn ff f1 1) hw ?_
  refine lv_aload_n hx₀ hb dX11_prepare_31 rfl (lv_at hl 0 rfl) ?_
  refine va_get (D := (dC, dI)) (ci := 10) (v := .ref aFl) (C := RX11) (T := TX11) (N := 15) hx₀ hb hts inlX11 hown hK hP 0 rfl rfl 3 (by decide) (hts (.fieldLink RX11 33 "BittenStick" "flights" "LBittenStick$Flights;") wd_27) (fun _ h9 => h9) rfl dX11_prepare_32 ?_
  refine lv_iload_n hx₀ hb dX11_prepare_35 rfl (lv_at hl 1 rfl) ?_
  obtain ⟨hPc, hDc, hFc, hC⟩ := k_cw (wc := [(kX1 aFl vFl xn), (kAI vFl cI 32 ff)]) hP hD hS hA [10, 11] (by decide +kernel) rfl
  refine va_calli (va_runV (As := [.int f1]) (rest := [.int (kIt xn ff f1 1), .int (kIt xn ff f1 0), .ref aTr]) ⟨hx₀, hb, hml, hown, hts⟩ (j_rightOf l dC dI cI cJ cQ H.size aFl f1 vFl xn ff (hh1)) (cwV 1 hts (kGV wd_448 wd_445 wd_446 wd_447 wd_26) rfl rfl rfl (by decide +kernel) ⟨Nat.le_of_ble_eq_true rfl, Nat.le_of_ble_eq_true rfl⟩) (k_preV1 (q0 := 0) hK hPc hDc hN rfl) rfl rfl hl.1 rfl (lv_room (Nat.le_of_ble_eq_true rfl)) dX11_prepare_36 ⟨by decide +kernel, by decide +kernel⟩) hS (fun q _ h => hFc q h) hFc (fun r_3 u₀ t₀ H1 locs ht hvm hw hB hz1 hk1 hS => ?_)
  obtain ⟨hP1, hK1, hD1⟩ := hB
  rw [ht] at hP1
  have hJ := k_jn (wr := [(kX11 hx aLa aPa aGe aFl aTr aBe aLu aLo vSf vSm vCo vSh xs xl xf), (kX10 aTr aLa aPa aGe gL gR lf rt tgo tca tki tso tbe twe xl tan tco ten), (kX3 gL u0 u1 u2 u3), (kX3 gR v0 v1 v2 v3), (kX4 aLa vLa l4 a4 n4), (kAI vLa cI 24 f4), (kX7 aPa vPa l7 a7 n7), (kAI vPa cI 39 f7), (kX2 aGe vGe l2 a2 n2), (kAI vGe cI 23 f2)]) (wt := [(kX11 hx aLa aPa aGe aFl aTr aBe aLu aLo vSf vSm vCo vSh xs xl xf), (kX10 aTr aLa aPa aGe gL gR lf rt tgo tca tki tso tbe twe xl tan tco ten), (kX3 gL u0 u1 u2 u3), (kX3 gR v0 v1 v2 v3), (kX4 aLa vLa l4 a4 n4), (kAI vLa cI 24 f4), (kX7 aPa vPa l7 a7 n7), (kAI vPa cI 39 f7), (kX2 aGe vGe l2 a2 n2), (kAI vGe cI 23 f2), (kX1 aFl vFl xn), (kAI vFl cI 32 ff)]) hP hD hC [0, 1, 2, 3, 4, 5, 6, 7, 8, 9] rfl (by decide +kernel) (by decide +kernel) hk1 hFc hP1 hD1 rfl
  clear hP hD hPc hDc hFc hC hP1 hD1 hK1 hz1 hk1 hvm ht
  obtain ⟨hP, hD⟩ := hJ
  generalize H1 = H at hP hS ⊢
  try dsimp only at hw
  refine k_topi (v := kIt xn ff f1 2) hw ?_
  obtain ⟨hPc, hDc, hFc, hC⟩ := k_cw (wc := [(kX10 aTr aLa aPa aGe gL gR lf rt tgo tca tki tso tbe twe xl tan tco ten), (kX3 gL u0 u1 u2 u3), (kX3 gR v0 v1 v2 v3), (kX4 aLa vLa l4 a4 n4), (kAI vLa cI 24 f4), (kX7 aPa vPa l7 a7 n7), (kAI vPa cI 39 f7), (kX2 aGe vGe l2 a2 n2), (kAI vGe cI 23 f2)]) hP hD hS hA [1, 2, 3, 4, 5, 6, 7, 8, 9] (by decide +kernel) rfl
  refine va_callv (va_runV (As := [.int (kIt xn ff f1 0), .int (kIt xn ff f1 1), .int (kIt xn ff f1 2)]) (rest := []) ⟨hx₀, hb, hml, hown, hts⟩ (e_board l dC dI cI cJ cQ H.size aTr (kIt xn ff f1 0) (kIt xn ff f1 1) (kIt xn ff f1 2) aLa aPa aGe gL gR lf rt tgo tca tki tso tbe twe xl tan tco ten u0 u1 u2 u3 v0 v1 v2 v3 vLa l4 a4 n4 f4 vPa l7 a7 n7 f7 vGe l2 a2 n2 f2 (hh0)) (cwV 3 hts (kGV wd_452 wd_449 wd_450 wd_451 wd_30) rfl rfl rfl (by decide +kernel) ⟨Nat.le_of_ble_eq_true rfl, Nat.le_of_ble_eq_true rfl⟩) (k_preV9 (q0 := 0) hK hPc hDc hN rfl) rfl rfl hl.1 rfl (lv_room (Nat.le_of_ble_eq_true rfl)) dX11_prepare_39 ⟨by decide +kernel, by decide +kernel⟩) hS (fun q _ h => hFc q h) hFc (fun u₀ t₀ H1 locs ht hvm hw hB hz1 hk1 hS => ?_)
  obtain ⟨g_5, ga_6, gl_7, gb_8, gp_9⟩ := u₀
  obtain ⟨hP1, hK1, hD1⟩ := hB
  rw [ht] at hP1
  have hJ := k_jn (wr := [(kX11 hx aLa aPa aGe aFl aTr aBe aLu aLo vSf vSm vCo vSh xs xl xf), (kX1 aFl vFl xn), (kAI vFl cI 32 ff)]) (wt := [(kX11 hx aLa aPa aGe aFl aTr aBe aLu aLo vSf vSm vCo vSh xs xl xf), (kX1 aFl vFl xn), (kAI vFl cI 32 ff), (kX10 aTr aLa aPa aGe gL gR (gp_9 0) (gp_9 1) (g_5 8) (g_5 9) (g_5 10) (g_5 11) (g_5 12) (g_5 13) xl tan tco ten), (kX3 gL (g_5 0) (g_5 1) (g_5 2) (g_5 3)), (kX3 gR (g_5 4) (g_5 5) (g_5 6) (g_5 7)), (kX4 aLa vLa l4 a4 n4), (kAI vLa cI 24 f4), (kX7 aPa vPa l7 a7 n7), (kAI vPa cI 39 f7), (kX2 aGe vGe l2 a2 n2), (kAI vGe cI 23 f2)]) hP hD hC [0, 10, 11] rfl (by decide +kernel) (by decide +kernel) hk1 hFc hP1 hD1 rfl
  clear hP hD hPc hDc hFc hC hP1 hD1 hK1 hz1 hk1 hvm ht
  obtain ⟨hP, hD⟩ := hJ
  generalize H1 = H at hP hS ⊢
  try dsimp only at hw
  obtain ⟨c_10, c_11, c_12, c_13, c_14, c_15, c_16, c_17, c_18, c_19⟩ := hw
  obtain ⟨hP9, hD9⟩ := k_c2 (wc := [(kX11 hx aLa aPa aGe aFl aTr aBe aLu aLo vSf vSm vCo vSh xs xl xf), (kX10 aTr aLa aPa aGe gL gR (gp_9 0) (gp_9 1) (g_5 8) (g_5 9) (g_5 10) (g_5 11) (g_5 12) (g_5 13) xl tan tco ten), (kX3 gL (g_5 0) (g_5 1) (g_5 2) (g_5 3)), (kX3 gR (g_5 4) (g_5 5) (g_5 6) (g_5 7)), (kX4 aLa vLa l4 a4 n4), (kAI vLa cI 24 f4), (kX7 aPa vPa l7 a7 n7), (kAI vPa cI 39 f7), (kX2 aGe vGe l2 a2 n2), (kAI vGe cI 23 f2), (kX1 aFl vFl xn), (kAI vFl cI 32 ff)]) hP hD [0, 3, 4, 5, 6, 7, 8, 9, 10, 11, 1, 2] (by decide +kernel) rfl
  exact W.vret hx₀ hb hr (fun t₀ ht hW => ⟨⟨(k_fn [(g_5 0), (g_5 1), (g_5 2), (g_5 3), (g_5 4), (g_5 5), (g_5 6), (g_5 7), (g_5 8), (g_5 9), (g_5 10), (g_5 11), (g_5 12), (g_5 13), xl, tan, tco, ten], k_fa [], k_fl [], k_fL [], k_fp [(gp_9 0), (gp_9 1)]), rfl, ⟨c_10, c_11, c_12, c_13, c_14, c_15, c_16, c_17, c_18, c_19, (rfl)⟩, by rw [ht]; exact hP9, va_K.moved hW.alike hK, hD9⟩, hS.F ht⟩) hS.2.2 dX11_prepare_42
theorem lf_e_strength_1 (a0 : Int32) (a1 : Int32) (h0 : 0 ≤ a0 ∧ a0.toInt < 2147483647) (h1 : a0 ≤ a1) (h2 : a1 ≤ a0) : -1 ≤ a0 ∧ a0.toInt < 2147483647 := by
  first | rfl | assumption | decide | exact Or.inl rfl | (first | omega | (have hr0 := Int32.toInt_lt a0; have hs0 := Int32.le_toInt a0; have hr1 := Int32.toInt_lt a1; have hs1 := Int32.le_toInt a1; simp only [Int64.toInt_add, Int64.toInt_sub, Int32.toInt_add, Int32.toInt_sub, Int32.toInt_mul, Int64.le_iff_toInt_le, Int64.lt_iff_toInt_lt, Int32.le_iff_toInt_le, Int32.lt_iff_toInt_lt, ← Int32.toInt_inj, ← Int64.toInt_inj, Int32.toInt_toInt64, kc_m1, kc_0, kc_1, kc_2147483647] at *; (first | omega | ((try simp (disch := omega) only [k_bm64] at *); (try simp (disch := omega) only [k_bm] at *); (try simp (disch := omega) only [k_bm] at *); omega) | (simp only [Int.bmod] at *; omega))))
theorem lf_e_strength_2 (a0 : Int32) (a1 : Int32) (h0 : 0 ≤ a0 ∧ a0.toInt < 2147483647) (h1 : a0 ≤ a1) (h2 : ¬ a1 ≤ a0) : -1 ≤ a0 ∧ a0.toInt < 2147483647 := by
  first | rfl | assumption | decide | exact Or.inl rfl | (first | omega | (have hr0 := Int32.toInt_lt a0; have hs0 := Int32.le_toInt a0; have hr1 := Int32.toInt_lt a1; have hs1 := Int32.le_toInt a1; simp only [Int64.toInt_add, Int64.toInt_sub, Int32.toInt_add, Int32.toInt_sub, Int32.toInt_mul, Int64.le_iff_toInt_le, Int64.lt_iff_toInt_lt, Int32.le_iff_toInt_le, Int32.lt_iff_toInt_lt, ← Int32.toInt_inj, ← Int64.toInt_inj, Int32.toInt_toInt64, kc_m1, kc_0, kc_1, kc_2147483647] at *; (first | omega | ((try simp (disch := omega) only [k_bm64] at *); (try simp (disch := omega) only [k_bm] at *); (try simp (disch := omega) only [k_bm] at *); omega) | (simp only [Int.bmod] at *; omega))))
set_option maxHeartbeats 4000000 in
set_option maxRecDepth 100000 in
theorem e_strength (l : Launch) (dC : Nat → ClassId) (dI : Nat → Nat → Nat) (cI cJ cQ : ClassId) (sz : Nat) (hx : Nat) (f1 : Int32) (m1 : Int32) (w1 : Int32) (aLa : Nat) (aPa : Nat) (aGe : Nat) (aFl : Nat) (aTr : Nat) (aBe : Nat) (aLu : Nat) (aLo : Nat) (vSf : Nat) (vSm : Nat) (vCo : Nat) (vSh : Nat) (xs : Int32) (xl : Int32) (xf : Int32) (gL : Nat) (gR : Nat) (lf : Nat) (rt : Nat) (tgo : Int32) (tca : Int32) (tki : Int32) (tso : Int32) (tbe : Int32) (twe : Int32) (tle : Int32) (tan : Int32) (tco : Int32) (ten : Int32) (u0 : Int32) (u1 : Int32) (u2 : Int32) (u3 : Int32) (v0 : Int32) (v1 : Int32) (v2 : Int32) (v3 : Int32) (vLa : Nat) (l4 : Int32) (a4 : Int32) (n4 : Int32) (f4 : Nat → Int32) (vPa : Nat) (l7 : Int32) (a7 : Int32) (n7 : Int32) (f7 : Nat → Int32) (vGe : Nat) (l2 : Int32) (a2 : Int32) (n2 : Int32) (f2 : Nat → Int32) (vFl : Nat) (xn : Int32) (ff : Nat → Int32) (hh0 : 0 ≤ n4 ∧ n4 ≤ 24) (hh1 : 0 ≤ xn ∧ xn ≤ 8) (hh2 : 0 ≤ m1 ∧ m1.toInt < 2147483647) : Met l yX11_strengthBehind (kW yX11_strengthBehind cX11_strengthBehind 5 (some .int)) { frames := 3, cells := 0, slots := 0, locals := 70 } (kPre dC dI cI cJ cQ sz [.ref hx, .int f1, .int m1, .int w1] [(kX11 hx aLa aPa aGe aFl aTr aBe aLu aLo vSf vSm vCo vSh xs xl xf), (kX10 aTr aLa aPa aGe gL gR lf rt tgo tca tki tso tbe twe tle tan tco ten), (kX3 gL u0 u1 u2 u3), (kX3 gR v0 v1 v2 v3), (kX4 aLa vLa l4 a4 n4), (kAI vLa cI 24 f4), (kX7 aPa vPa l7 a7 n7), (kAI vPa cI 39 f7), (kX2 aGe vGe l2 a2 n2), (kAI vGe cI 23 f2), (kX1 aFl vFl xn), (kAI vFl cI 32 ff)]) (va_Qi (fun (r : Int32) (u : kS) => (r = if tgo = 0 ∨ (kGo (kAt 24 f4) tca tle tki tso tbe (fun _ => (kIt xn ff f1 3)) (kfu n4 0) (0 : Int32) (0 : Int32) (0 : Int32) (if tgo = 0 then 1 else 0)).1 < m1 then -1 else if w1 = 2 then (kGz (kAt 24 f4) twe (if m1 < (kGo (kAt 24 f4) tca tle tki tso tbe (fun _ => (kIt xn ff f1 3)) (kfu n4 0) (0 : Int32) (0 : Int32) (0 : Int32) (if tgo = 0 then 1 else 0)).1 then 1 else 0) (kfu (m1 + 1) 0) 0 ((u0, u1, u0, 0), (v0, v1, v0, 0))).1.2.2.1 else (kGz (kAt 24 f4) twe (if m1 < (kGo (kAt 24 f4) tca tle tki tso tbe (fun _ => (kIt xn ff f1 3)) (kfu n4 0) (0 : Int32) (0 : Int32) (0 : Int32) (if tgo = 0 then 1 else 0)).1 then 1 else 0) (kfu (m1 + 1) 0) 0 ((u0, u1, u0, 0), (v0, v1, v0, 0))).2.2.2.1)) (fun (u : kS) t₀ => kB dC dI cI cJ cQ (va_A [(kX11 hx aLa aPa aGe aFl aTr aBe aLu aLo vSf vSm vCo vSh xs xl xf), (kX10 aTr aLa aPa aGe gL gR lf rt tgo tca tki tso tbe twe tle tan tco ten), (kX3 gL u0 u1 u2 u3), (kX3 gR v0 v1 v2 v3), (kX4 aLa vLa l4 a4 n4), (kAI vLa cI 24 f4), (kX7 aPa vPa l7 a7 n7), (kAI vPa cI 39 f7), (kX2 aGe vGe l2 a2 n2), (kAI vGe cI 23 f2), (kX1 aFl vFl xn), (kAI vFl cI 32 ff)] sz) [(kX11 hx aLa aPa aGe aFl aTr aBe aLu aLo vSf vSm vCo vSh xs xl xf), (kX10 aTr aLa aPa aGe gL gR (u.2.2.2.2 0) (u.2.2.2.2 1) (u.1 8) (u.1 9) (u.1 10) (u.1 11) (u.1 12) (u.1 13) (u.1 14) (u.1 15) (u.1 16) (u.1 17)), (kX3 gL (u.1 0) (u.1 1) (u.1 2) (u.1 3)), (kX3 gR (u.1 4) (u.1 5) (u.1 6) (u.1 7)), (kX4 aLa vLa l4 a4 n4), (kAI vLa cI 24 f4), (kX7 aPa vPa l7 a7 n7), (kAI vPa cI 39 f7), (kX2 aGe vGe l2 a2 n2), (kAI vGe cI 23 f2), (kX1 aFl vFl xn), (kAI vFl cI 32 ff)] t₀) (va_A [(kX11 hx aLa aPa aGe aFl aTr aBe aLu aLo vSf vSm vCo vSh xs xl xf), (kX10 aTr aLa aPa aGe gL gR lf rt tgo tca tki tso tbe twe tle tan tco ten), (kX3 gL u0 u1 u2 u3), (kX3 gR v0 v1 v2 v3), (kX4 aLa vLa l4 a4 n4), (kAI vLa cI 24 f4), (kX7 aPa vPa l7 a7 n7), (kAI vPa cI 39 f7), (kX2 aGe vGe l2 a2 n2), (kAI vGe cI 23 f2), (kX1 aFl vFl xn), (kAI vFl cI 32 ff)] sz)) 0 0 (va_A [(kX11 hx aLa aPa aGe aFl aTr aBe aLu aLo vSf vSm vCo vSh xs xl xf), (kX10 aTr aLa aPa aGe gL gR lf rt tgo tca tki tso tbe twe tle tan tco ten), (kX3 gL u0 u1 u2 u3), (kX3 gR v0 v1 v2 v3), (kX4 aLa vLa l4 a4 n4), (kAI vLa cI 24 f4), (kX7 aPa vPa l7 a7 n7), (kAI vPa cI 39 f7), (kX2 aGe vGe l2 a2 n2), (kAI vGe cI 23 f2), (kX1 aFl vFl xn), (kAI vFl cI 32 ff)] sz) := by
  refine Met.ofW (cc := cX11_strengthBehind) (maxL := 5) (ret := (some .int)) (by decide) rfl ?_
  intro p₀ e₀ s₀ m₀ args below meth c₀ s₁ B hml hv₀
  obtain ⟨rfl, hsz, hP, hK, hD0, hN⟩ := hv₀
  have hx₀ := B.exec
  have hb := B.bytes
  have hr := B.returns
  have hts := atoms_spec (ws := (kW yX11_strengthBehind cX11_strengthBehind 5 (some .int))) B.pre
  have hts := fun w h => hts w (List.mem_cons_of_mem _ h)
  have hown : s₀.vm.findClass RX11 = some m₀.cls := findClass_of_methodNamed B.named
  have hlocks := B.notSynchronized
  subst hsz
  have hD := hD0.self (sz := s₀.heap.size)
  generalize hAe : va_A [(kX11 hx aLa aPa aGe aFl aTr aBe aLu aLo vSf vSm vCo vSh xs xl xf), (kX10 aTr aLa aPa aGe gL gR lf rt tgo tca tki tso tbe twe tle tan tco ten), (kX3 gL u0 u1 u2 u3), (kX3 gR v0 v1 v2 v3), (kX4 aLa vLa l4 a4 n4), (kAI vLa cI 24 f4), (kX7 aPa vPa l7 a7 n7), (kAI vPa cI 39 f7), (kX2 aGe vGe l2 a2 n2), (kAI vGe cI 23 f2), (kX1 aFl vFl xn), (kAI vFl cI 32 ff)] s₀.heap.size = A at hD ⊢
  have hA : ∀ q : Nat, s₀.heap.size ≤ q → A q := fun q h => by rw [← hAe]; exact Or.inr h
  have hS : va_S A s₀.heap s₀.heap [] := va_S.rf
  have hP : va_P (dC, dI) vwCl [(kX11 hx aLa aPa aGe aFl aTr aBe aLu aLo vSf vSm vCo vSh xs xl xf), (kX10 aTr aLa aPa aGe gL gR lf rt tgo tca tki tso tbe twe tle tan tco ten), (kX3 gL u0 u1 u2 u3), (kX3 gR v0 v1 v2 v3), (kX4 aLa vLa l4 a4 n4), (kAI vLa cI 24 f4), (kX7 aPa vPa l7 a7 n7), (kAI vPa cI 39 f7), (kX2 aGe vGe l2 a2 n2), (kAI vGe cI 23 f2), (kX1 aFl vFl xn), (kAI vFl cI 32 ff)] s₀.heap := hP
  have hl := lv_entry ([.ref hx, .int f1, .int m1, .int w1]) (n := 5) (Nat.le_of_ble_eq_true rfl)
  rw [lg_entry_eq]
  generalize (lg_sl ([.ref hx, .int f1, .int m1, .int w1]) ++ List.replicate (5 - (lg_sl ([.ref hx, .int f1, .int m1, .int w1])).length) Slot.unset).toArray = ls at hl ⊢
  have hl : lv_has ls 5 [(0, .ref hx), (1, .int f1), (2, .int m1), (3, .int w1)] := hl
  obtain ⟨H, hH⟩ : ∃ z : Heap, z = s₀.heap := ⟨_, rfl⟩
  rw [← hH] at hP
  have hS : va_S A s₀.heap H [] := by rw [hH]; exact hS
  refine k_heap hH ?_
  have hD : va_D A [(kX11 hx aLa aPa aGe aFl aTr aBe aLu aLo vSf vSm vCo vSh xs xl xf), (kX10 aTr aLa aPa aGe gL gR lf rt tgo tca tki tso tbe twe tle tan tco ten), (kX3 gL u0 u1 u2 u3), (kX3 gR v0 v1 v2 v3), (kX4 aLa vLa l4 a4 n4), (kAI vLa cI 24 f4), (kX7 aPa vPa l7 a7 n7), (kAI vPa cI 39 f7), (kX2 aGe vGe l2 a2 n2), (kAI vGe cI 23 f2), (kX1 aFl vFl xn), (kAI vFl cI 32 ff)] := hD
  obtain ⟨locs, hlo⟩ : ∃ z : List Loc, z = [] := ⟨_, rfl⟩
  rw [← hlo] at hS ⊢
  clear hlo hH hAe hD0
  refine lv_aload_n hx₀ hb dX11_strengthBehind_0 rfl (lv_at hl 0 rfl) ?_
  refine va_get (D := (dC, dI)) (ci := 10) (v := .ref aTr) (C := RX11) (T := TX11) (N := 15) hx₀ hb hts inlX11 hown hK hP 0 rfl rfl 4 (by decide) (hts (.fieldLink RX11 42 "BittenStick" "trip" "LBittenStick$Trip;") wd_31) (fun _ h9 => h9) rfl dX11_strengthBehind_1 ?_
  refine lv_aload_n hx₀ hb dX11_strengthBehind_4 rfl (lv_at hl 0 rfl) ?_
  refine va_get (D := (dC, dI)) (ci := 10) (v := .ref aFl) (C := RX11) (T := TX11) (N := 15) hx₀ hb hts inlX11 hown hK hP 0 rfl rfl 3 (by decide) (hts (.fieldLink RX11 33 "BittenStick" "flights" "LBittenStick$Flights;") wd_27) (fun _ h9 => h9) rfl dX11_strengthBehind_5 ?_
  refine lv_iload_n hx₀ hb dX11_strengthBehind_8 rfl (lv_at hl 1 rfl) ?_
  obtain ⟨hPc, hDc, hFc, hC⟩ := k_cw (wc := [(kX1 aFl vFl xn), (kAI vFl cI 32 ff)]) hP hD hS hA [10, 11] (by decide +kernel) rfl
  refine va_calli (va_runV (As := [.int f1]) (rest := [.ref aTr]) ⟨hx₀, hb, hml, hown, hts⟩ (j_heightOf l dC dI cI cJ cQ H.size aFl f1 vFl xn ff (hh1)) (cwV 1 hts (kGV wd_491 wd_488 wd_489 wd_490 wd_26) rfl rfl rfl (by decide +kernel) ⟨Nat.le_of_ble_eq_true rfl, Nat.le_of_ble_eq_true rfl⟩) (k_preV1 (q0 := 0) hK hPc hDc hN rfl) rfl rfl hl.1 rfl (lv_room (Nat.le_of_ble_eq_true rfl)) dX11_strengthBehind_9 ⟨by decide +kernel, by decide +kernel⟩) hS (fun q _ h => hFc q h) hFc (fun r_1 u₀ t₀ H1 locs ht hvm hw hB hz1 hk1 hS => ?_)
  obtain ⟨hP1, hK1, hD1⟩ := hB
  rw [ht] at hP1
  have hJ := k_jn (wr := [(kX11 hx aLa aPa aGe aFl aTr aBe aLu aLo vSf vSm vCo vSh xs xl xf), (kX10 aTr aLa aPa aGe gL gR lf rt tgo tca tki tso tbe twe tle tan tco ten), (kX3 gL u0 u1 u2 u3), (kX3 gR v0 v1 v2 v3), (kX4 aLa vLa l4 a4 n4), (kAI vLa cI 24 f4), (kX7 aPa vPa l7 a7 n7), (kAI vPa cI 39 f7), (kX2 aGe vGe l2 a2 n2), (kAI vGe cI 23 f2)]) (wt := [(kX11 hx aLa aPa aGe aFl aTr aBe aLu aLo vSf vSm vCo vSh xs xl xf), (kX10 aTr aLa aPa aGe gL gR lf rt tgo tca tki tso tbe twe tle tan tco ten), (kX3 gL u0 u1 u2 u3), (kX3 gR v0 v1 v2 v3), (kX4 aLa vLa l4 a4 n4), (kAI vLa cI 24 f4), (kX7 aPa vPa l7 a7 n7), (kAI vPa cI 39 f7), (kX2 aGe vGe l2 a2 n2), (kAI vGe cI 23 f2), (kX1 aFl vFl xn), (kAI vFl cI 32 ff)]) hP hD hC [0, 1, 2, 3, 4, 5, 6, 7, 8, 9] rfl (by decide +kernel) (by decide +kernel) hk1 hFc hP1 hD1 rfl
  clear hP hD hPc hDc hFc hC hP1 hD1 hK1 hz1 hk1 hvm ht
  obtain ⟨hP, hD⟩ := hJ
  generalize H1 = H at hP hS ⊢
  try dsimp only at hw
  refine k_topi (v := kIt xn ff f1 3) hw ?_
  obtain ⟨hPc, hDc, hFc, hC⟩ := k_cw (wc := [(kX10 aTr aLa aPa aGe gL gR lf rt tgo tca tki tso tbe twe tle tan tco ten), (kX4 aLa vLa l4 a4 n4), (kAI vLa cI 24 f4)]) hP hD hS hA [1, 4, 5] (by decide +kernel) rfl
  refine va_calli (va_runV (As := [.int (kIt xn ff f1 3)]) (rest := []) ⟨hx₀, hb, hml, hown, hts⟩ (j_comesTo l dC dI cI cJ cQ H.size aTr (kIt xn ff f1 3) aLa aPa aGe gL gR lf rt tgo tca tki tso tbe twe tle tan tco ten vLa l4 a4 n4 f4 (hh0)) (cwV 1 hts (kGV wd_495 wd_492 wd_493 wd_494 wd_30) rfl rfl rfl (by decide +kernel) ⟨Nat.le_of_ble_eq_true rfl, Nat.le_of_ble_eq_true rfl⟩) (k_preV9 (q0 := 0) hK hPc hDc hN rfl) rfl rfl hl.1 rfl (lv_room (Nat.le_of_ble_eq_true rfl)) dX11_strengthBehind_12 ⟨by decide +kernel, by decide +kernel⟩) hS (fun q _ h => hFc q h) hFc (fun r_2 u₀ t₀ H1 locs ht hvm hw hB hz1 hk1 hS => ?_)
  obtain ⟨g_3, ga_4, gl_5, gb_6, gp_7⟩ := u₀
  obtain ⟨hP1, hK1, hD1⟩ := hB
  rw [ht] at hP1
  have hJ := k_jn (wr := [(kX11 hx aLa aPa aGe aFl aTr aBe aLu aLo vSf vSm vCo vSh xs xl xf), (kX3 gL u0 u1 u2 u3), (kX3 gR v0 v1 v2 v3), (kX7 aPa vPa l7 a7 n7), (kAI vPa cI 39 f7), (kX2 aGe vGe l2 a2 n2), (kAI vGe cI 23 f2), (kX1 aFl vFl xn), (kAI vFl cI 32 ff)]) (wt := [(kX11 hx aLa aPa aGe aFl aTr aBe aLu aLo vSf vSm vCo vSh xs xl xf), (kX3 gL u0 u1 u2 u3), (kX3 gR v0 v1 v2 v3), (kX7 aPa vPa l7 a7 n7), (kAI vPa cI 39 f7), (kX2 aGe vGe l2 a2 n2), (kAI vGe cI 23 f2), (kX1 aFl vFl xn), (kAI vFl cI 32 ff), (kX10 aTr aLa aPa aGe gL gR lf rt tgo tca tki tso tbe twe tle (g_3 0) (g_3 1) (g_3 2)), (kX4 aLa vLa l4 a4 n4), (kAI vLa cI 24 f4)]) hP hD hC [0, 2, 3, 6, 7, 8, 9, 10, 11] rfl (by decide +kernel) (by decide +kernel) hk1 hFc hP1 hD1 rfl
  clear hP hD hPc hDc hFc hC hP1 hD1 hK1 hz1 hk1 hvm ht
  obtain ⟨hP, hD⟩ := hJ
  generalize H1 = H at hP hS ⊢
  try dsimp only at hw
  obtain ⟨c_8, c_9, c_10, c_11⟩ := hw
  refine lv_istore (lv' := [(4, .int r_2), (0, .ref hx), (1, .int f1), (2, .int m1), (3, .int w1)]) hx₀ hb dX11_strengthBehind_15 hl (by decide) rfl (fun ls hl => ?_)
  refine lv_aload_n hx₀ hb dX11_strengthBehind_17 rfl (lv_at hl 1 rfl) ?_
  refine va_get (D := (dC, dI)) (ci := 10) (v := .ref aTr) (C := RX11) (T := TX11) (N := 15) hx₀ hb hts inlX11 hown hK hP 0 rfl rfl 4 (by decide) (hts (.fieldLink RX11 42 "BittenStick" "trip" "LBittenStick$Trip;") wd_31) (fun _ h9 => h9) rfl dX11_strengthBehind_18 ?_
  refine va_get (D := (dC, dI)) (ci := 9) (v := .int tgo) (C := RX10) (T := TX10) (N := 17) hx₀ hb hts inlX10 hown hK hP 9 rfl rfl 7 (by decide) (hts (.fieldLink RX11 338 "BittenStick$Trip" "goes" "Z") wd_578) (fun _ h9 => h9) rfl dX11_strengthBehind_21 ?_
  refine lv_if_eq (tgt := 33) hx₀ hb dX11_strengthBehind_24 (by decide) (fun c_12 => ?_) (fun c_12 => ?_)
  · refine lv_iconst (v := (-1)) hx₀ hb dX11_strengthBehind_33 (by decide +kernel) ?_
    obtain ⟨hP9, hD9⟩ := k_c2 (wc := [(kX11 hx aLa aPa aGe aFl aTr aBe aLu aLo vSf vSm vCo vSh xs xl xf), (kX10 aTr aLa aPa aGe gL gR lf rt tgo tca tki tso tbe twe tle (g_3 0) (g_3 1) (g_3 2)), (kX3 gL u0 u1 u2 u3), (kX3 gR v0 v1 v2 v3), (kX4 aLa vLa l4 a4 n4), (kAI vLa cI 24 f4), (kX7 aPa vPa l7 a7 n7), (kAI vPa cI 39 f7), (kX2 aGe vGe l2 a2 n2), (kAI vGe cI 23 f2), (kX1 aFl vFl xn), (kAI vFl cI 32 ff)]) hP hD [0, 9, 1, 2, 10, 11, 3, 4, 5, 6, 7, 8] (by decide +kernel) rfl
    exact W.iret (v := (-1)) hx₀ hb hr (fun t₀ ht hW => ⟨⟨(-1), (k_fn [u0, u1, u2, u3, v0, v1, v2, v3, tgo, tca, tki, tso, tbe, twe, tle, (g_3 0), (g_3 1), (g_3 2)], k_fa [], k_fl [], k_fL [], k_fp [lf, rt]), rfl, (if_pos (Or.inl c_12)).symm, by rw [ht]; exact hP9, va_K.moved hW.alike hK, hD9⟩, hS.F ht⟩) hS.2.2 dX11_strengthBehind_34
  · refine lv_iload hx₀ hb dX11_strengthBehind_27 (lv_at hl 0 rfl) ?_
    refine lv_iload_n hx₀ hb dX11_strengthBehind_29 rfl (lv_at hl 3 rfl) ?_
    refine lv_icmp_ge (tgt := 35) hx₀ hb dX11_strengthBehind_30 (by decide) (fun c_13 => ?_) (fun c_13 => ?_)
    · refine lv_aload_n hx₀ hb dX11_strengthBehind_35 rfl (lv_at hl 1 rfl) ?_
      refine va_get (D := (dC, dI)) (ci := 10) (v := .ref aTr) (C := RX11) (T := TX11) (N := 15) hx₀ hb hts inlX11 hown hK hP 0 rfl rfl 4 (by decide) (hts (.fieldLink RX11 42 "BittenStick" "trip" "LBittenStick$Trip;") wd_31) (fun _ h9 => h9) rfl dX11_strengthBehind_36 ?_
      refine lv_iload_n hx₀ hb dX11_strengthBehind_39 rfl (lv_at hl 3 rfl) ?_
      refine lv_iload hx₀ hb dX11_strengthBehind_40 (lv_at hl 0 rfl) ?_
      refine lv_iload_n hx₀ hb dX11_strengthBehind_42 rfl (lv_at hl 3 rfl) ?_
      refine lv_icmp_le (tgt := 50) hx₀ hb dX11_strengthBehind_43 (by decide) (fun c_14 => ?_) (fun c_14 => ?_)
      · refine lv_iconst (v := 0) hx₀ hb dX11_strengthBehind_50 (by decide +kernel) ?_
        obtain ⟨hPc, hDc, hFc, hC⟩ := k_cw (wc := [(kX10 aTr aLa aPa aGe gL gR lf rt tgo tca tki tso tbe twe tle (g_3 0) (g_3 1) (g_3 2)), (kX3 gL u0 u1 u2 u3), (kX3 gR v0 v1 v2 v3), (kX4 aLa vLa l4 a4 n4), (kAI vLa cI 24 f4)]) hP hD hS hA [9, 1, 2, 10, 11] (by decide +kernel) rfl
        refine va_calli (va_runV (As := [.int m1, .int 0]) (rest := []) ⟨hx₀, hb, hml, hown, hts⟩ (e_flyGeese l dC dI cI cJ cQ H.size aTr m1 0 aLa aPa aGe gL gR lf rt tgo tca tki tso tbe twe tle (g_3 0) (g_3 1) (g_3 2) u0 u1 u2 u3 v0 v1 v2 v3 vLa l4 a4 n4 f4 (lf_e_strength_1 m1 r_2 hh2 c_13 c_14)) (cwV 2 hts (kGV wd_469 wd_590 wd_467 wd_468 wd_30) rfl rfl rfl (by decide +kernel) ⟨Nat.le_of_ble_eq_true rfl, Nat.le_of_ble_eq_true rfl⟩) (k_preV9 (q0 := 0) hK hPc hDc hN rfl) rfl rfl hl.1 rfl (lv_room (Nat.le_of_ble_eq_true rfl)) dX11_strengthBehind_51 ⟨by decide +kernel, by decide +kernel⟩) hS (fun q _ h => hFc q h) hFc (fun r_15 u₀ t₀ H1 locs ht hvm hw hB hz1 hk1 hS => ?_)
        obtain ⟨g_16, ga_17, gl_18, gb_19, gp_20⟩ := u₀
        obtain ⟨hP1, hK1, hD1⟩ := hB
        rw [ht] at hP1
        have hJ := k_jn (wr := [(kX11 hx aLa aPa aGe aFl aTr aBe aLu aLo vSf vSm vCo vSh xs xl xf), (kX7 aPa vPa l7 a7 n7), (kAI vPa cI 39 f7), (kX2 aGe vGe l2 a2 n2), (kAI vGe cI 23 f2), (kX1 aFl vFl xn), (kAI vFl cI 32 ff)]) (wt := [(kX11 hx aLa aPa aGe aFl aTr aBe aLu aLo vSf vSm vCo vSh xs xl xf), (kX7 aPa vPa l7 a7 n7), (kAI vPa cI 39 f7), (kX2 aGe vGe l2 a2 n2), (kAI vGe cI 23 f2), (kX1 aFl vFl xn), (kAI vFl cI 32 ff), (kX10 aTr aLa aPa aGe gL gR (gp_20 0) (gp_20 1) tgo tca tki tso tbe twe tle (g_3 0) (g_3 1) (g_3 2)), (kX3 gL u0 u1 (g_16 0) (g_16 1)), (kX3 gR v0 v1 (g_16 2) (g_16 3)), (kX4 aLa vLa l4 a4 n4), (kAI vLa cI 24 f4)]) hP hD hC [0, 3, 4, 5, 6, 7, 8] rfl (by decide +kernel) (by decide +kernel) hk1 hFc hP1 hD1 rfl
        clear hP hD hPc hDc hFc hC hP1 hD1 hK1 hz1 hk1 hvm ht
        obtain ⟨hP, hD⟩ := hJ
        generalize H1 = H at hP hS ⊢
        try dsimp only at hw
        obtain ⟨c_21, c_22⟩ := hw
        refine lv_pop hx₀ hb dX11_strengthBehind_54 rfl ?_
        rcases c_22 with ⟨e1, e2, hgp⟩ | ⟨e1, e2, hgp⟩
        · replace hP : va_P (dC, dI) vwCl [(kX11 hx aLa aPa aGe aFl aTr aBe aLu aLo vSf vSm vCo vSh xs xl xf), (kX7 aPa vPa l7 a7 n7), (kAI vPa cI 39 f7), (kX2 aGe vGe l2 a2 n2), (kAI vGe cI 23 f2), (kX1 aFl vFl xn), (kAI vFl cI 32 ff), (kX10 aTr aLa aPa aGe gL gR gL gR tgo tca tki tso tbe twe tle (g_3 0) (g_3 1) (g_3 2)), (kX3 gL u0 u1 (g_16 0) (g_16 1)), (kX3 gR v0 v1 (g_16 2) (g_16 3)), (kX4 aLa vLa l4 a4 n4), (kAI vLa cI 24 f4)] H := by rw [e1, e2] at hP; exact hP
          replace hD : va_D A [(kX11 hx aLa aPa aGe aFl aTr aBe aLu aLo vSf vSm vCo vSh xs xl xf), (kX7 aPa vPa l7 a7 n7), (kAI vPa cI 39 f7), (kX2 aGe vGe l2 a2 n2), (kAI vGe cI 23 f2), (kX1 aFl vFl xn), (kAI vFl cI 32 ff), (kX10 aTr aLa aPa aGe gL gR gL gR tgo tca tki tso tbe twe tle (g_3 0) (g_3 1) (g_3 2)), (kX3 gL u0 u1 (g_16 0) (g_16 1)), (kX3 gR v0 v1 (g_16 2) (g_16 3)), (kX4 aLa vLa l4 a4 n4), (kAI vLa cI 24 f4)] := by rw [e1, e2] at hD; exact hD
          refine lv_iload_n hx₀ hb dX11_strengthBehind_55 rfl (lv_at hl 4 rfl) ?_
          refine lv_iconst (v := 2) hx₀ hb dX11_strengthBehind_56 (by decide +kernel) ?_
          refine lv_icmp_ne (tgt := 73) hx₀ hb dX11_strengthBehind_57 (by decide) (fun c_23 => ?_) (fun c_23 => ?_)
          · refine lv_aload_n hx₀ hb dX11_strengthBehind_73 rfl (lv_at hl 1 rfl) ?_
            refine va_get (D := (dC, dI)) (ci := 10) (v := .ref aTr) (C := RX11) (T := TX11) (N := 15) hx₀ hb hts inlX11 hown hK hP 0 rfl rfl 4 (by decide) (hts (.fieldLink RX11 42 "BittenStick" "trip" "LBittenStick$Trip;") wd_31) (fun _ h9 => h9) rfl dX11_strengthBehind_74 ?_
            refine va_get (D := (dC, dI)) (ci := 9) (v := .ref gR) (C := RX10) (T := TX10) (N := 17) hx₀ hb hts inlX10 hown hK hP 7 rfl rfl 6 (by decide) (hts (.fieldLink RX11 360 "BittenStick$Trip" "right" "LBittenStick$Goose;") wd_589) (fun _ h9 => h9) rfl dX11_strengthBehind_77 ?_
            refine va_get (D := (dC, dI)) (ci := 3) (v := .int (g_16 2)) (C := RX3) (T := TX3) (N := 4) hx₀ hb hts inlX3 hown hK hP 9 rfl rfl 2 (by decide) (hts (.fieldLink RX11 355 "BittenStick$Goose" "strong" "I") wd_588) (fun _ h9 => h9) rfl dX11_strengthBehind_80 ?_
            obtain ⟨hP9, hD9⟩ := k_c2 (wc := [(kX11 hx aLa aPa aGe aFl aTr aBe aLu aLo vSf vSm vCo vSh xs xl xf), (kX10 aTr aLa aPa aGe gL gR gL gR tgo tca tki tso tbe twe tle (g_3 0) (g_3 1) (g_3 2)), (kX3 gL u0 u1 (g_16 0) (g_16 1)), (kX3 gR v0 v1 (g_16 2) (g_16 3)), (kX4 aLa vLa l4 a4 n4), (kAI vLa cI 24 f4), (kX7 aPa vPa l7 a7 n7), (kAI vPa cI 39 f7), (kX2 aGe vGe l2 a2 n2), (kAI vGe cI 23 f2), (kX1 aFl vFl xn), (kAI vFl cI 32 ff)]) hP hD [0, 7, 8, 9, 10, 11, 1, 2, 3, 4, 5, 6] (by decide +kernel) rfl
            exact W.iret (v := g_16 2) hx₀ hb hr (fun t₀ ht hW => ⟨⟨g_16 2, (k_fn [u0, u1, (g_16 0), (g_16 1), v0, v1, (g_16 2), (g_16 3), tgo, tca, tki, tso, tbe, twe, tle, (g_3 0), (g_3 1), (g_3 2)], k_fa [], k_fl [], k_fL [], k_fp [gL, gR]), rfl, (by rw [if_neg (fun z => z.elim c_12 (by rw [← c_8]; exact (Int32.not_lt.mpr c_13))), if_neg c_23, ← c_8, if_neg (Int32.not_lt.mpr c_14), hgp]), by rw [ht]; exact hP9, va_K.moved hW.alike hK, hD9⟩, hS.F ht⟩) hS.2.2 dX11_strengthBehind_83
          · refine lv_aload_n hx₀ hb dX11_strengthBehind_60 rfl (lv_at hl 1 rfl) ?_
            refine va_get (D := (dC, dI)) (ci := 10) (v := .ref aTr) (C := RX11) (T := TX11) (N := 15) hx₀ hb hts inlX11 hown hK hP 0 rfl rfl 4 (by decide) (hts (.fieldLink RX11 42 "BittenStick" "trip" "LBittenStick$Trip;") wd_31) (fun _ h9 => h9) rfl dX11_strengthBehind_61 ?_
            refine va_get (D := (dC, dI)) (ci := 9) (v := .ref gL) (C := RX10) (T := TX10) (N := 17) hx₀ hb hts inlX10 hown hK hP 7 rfl rfl 5 (by decide) (hts (.fieldLink RX11 351 "BittenStick$Trip" "left" "LBittenStick$Goose;") wd_587) (fun _ h9 => h9) rfl dX11_strengthBehind_64 ?_
            refine va_get (D := (dC, dI)) (ci := 3) (v := .int (g_16 0)) (C := RX3) (T := TX3) (N := 4) hx₀ hb hts inlX3 hown hK hP 8 rfl rfl 2 (by decide) (hts (.fieldLink RX11 355 "BittenStick$Goose" "strong" "I") wd_588) (fun _ h9 => h9) rfl dX11_strengthBehind_67 ?_
            refine lv_goto (tgt := 83) hx₀ hb dX11_strengthBehind_70 (by decide) ?_
            obtain ⟨hP9, hD9⟩ := k_c2 (wc := [(kX11 hx aLa aPa aGe aFl aTr aBe aLu aLo vSf vSm vCo vSh xs xl xf), (kX10 aTr aLa aPa aGe gL gR gL gR tgo tca tki tso tbe twe tle (g_3 0) (g_3 1) (g_3 2)), (kX3 gL u0 u1 (g_16 0) (g_16 1)), (kX3 gR v0 v1 (g_16 2) (g_16 3)), (kX4 aLa vLa l4 a4 n4), (kAI vLa cI 24 f4), (kX7 aPa vPa l7 a7 n7), (kAI vPa cI 39 f7), (kX2 aGe vGe l2 a2 n2), (kAI vGe cI 23 f2), (kX1 aFl vFl xn), (kAI vFl cI 32 ff)]) hP hD [0, 7, 8, 9, 10, 11, 1, 2, 3, 4, 5, 6] (by decide +kernel) rfl
            exact W.iret (v := g_16 0) hx₀ hb hr (fun t₀ ht hW => ⟨⟨g_16 0, (k_fn [u0, u1, (g_16 0), (g_16 1), v0, v1, (g_16 2), (g_16 3), tgo, tca, tki, tso, tbe, twe, tle, (g_3 0), (g_3 1), (g_3 2)], k_fa [], k_fl [], k_fL [], k_fp [gL, gR]), rfl, (by rw [if_neg (fun z => z.elim c_12 (by rw [← c_8]; exact (Int32.not_lt.mpr c_13))), if_pos c_23, ← c_8, if_neg (Int32.not_lt.mpr c_14), hgp]), by rw [ht]; exact hP9, va_K.moved hW.alike hK, hD9⟩, hS.F ht⟩) hS.2.2 dX11_strengthBehind_83
        · replace hP : va_P (dC, dI) vwCl [(kX11 hx aLa aPa aGe aFl aTr aBe aLu aLo vSf vSm vCo vSh xs xl xf), (kX7 aPa vPa l7 a7 n7), (kAI vPa cI 39 f7), (kX2 aGe vGe l2 a2 n2), (kAI vGe cI 23 f2), (kX1 aFl vFl xn), (kAI vFl cI 32 ff), (kX10 aTr aLa aPa aGe gL gR gR gL tgo tca tki tso tbe twe tle (g_3 0) (g_3 1) (g_3 2)), (kX3 gL u0 u1 (g_16 0) (g_16 1)), (kX3 gR v0 v1 (g_16 2) (g_16 3)), (kX4 aLa vLa l4 a4 n4), (kAI vLa cI 24 f4)] H := by rw [e1, e2] at hP; exact hP
          replace hD : va_D A [(kX11 hx aLa aPa aGe aFl aTr aBe aLu aLo vSf vSm vCo vSh xs xl xf), (kX7 aPa vPa l7 a7 n7), (kAI vPa cI 39 f7), (kX2 aGe vGe l2 a2 n2), (kAI vGe cI 23 f2), (kX1 aFl vFl xn), (kAI vFl cI 32 ff), (kX10 aTr aLa aPa aGe gL gR gR gL tgo tca tki tso tbe twe tle (g_3 0) (g_3 1) (g_3 2)), (kX3 gL u0 u1 (g_16 0) (g_16 1)), (kX3 gR v0 v1 (g_16 2) (g_16 3)), (kX4 aLa vLa l4 a4 n4), (kAI vLa cI 24 f4)] := by rw [e1, e2] at hD; exact hD
          refine lv_iload_n hx₀ hb dX11_strengthBehind_55 rfl (lv_at hl 4 rfl) ?_
          refine lv_iconst (v := 2) hx₀ hb dX11_strengthBehind_56 (by decide +kernel) ?_
          refine lv_icmp_ne (tgt := 73) hx₀ hb dX11_strengthBehind_57 (by decide) (fun c_24 => ?_) (fun c_24 => ?_)
          · refine lv_aload_n hx₀ hb dX11_strengthBehind_73 rfl (lv_at hl 1 rfl) ?_
            refine va_get (D := (dC, dI)) (ci := 10) (v := .ref aTr) (C := RX11) (T := TX11) (N := 15) hx₀ hb hts inlX11 hown hK hP 0 rfl rfl 4 (by decide) (hts (.fieldLink RX11 42 "BittenStick" "trip" "LBittenStick$Trip;") wd_31) (fun _ h9 => h9) rfl dX11_strengthBehind_74 ?_
            refine va_get (D := (dC, dI)) (ci := 9) (v := .ref gL) (C := RX10) (T := TX10) (N := 17) hx₀ hb hts inlX10 hown hK hP 7 rfl rfl 6 (by decide) (hts (.fieldLink RX11 360 "BittenStick$Trip" "right" "LBittenStick$Goose;") wd_589) (fun _ h9 => h9) rfl dX11_strengthBehind_77 ?_
            refine va_get (D := (dC, dI)) (ci := 3) (v := .int (g_16 0)) (C := RX3) (T := TX3) (N := 4) hx₀ hb hts inlX3 hown hK hP 8 rfl rfl 2 (by decide) (hts (.fieldLink RX11 355 "BittenStick$Goose" "strong" "I") wd_588) (fun _ h9 => h9) rfl dX11_strengthBehind_80 ?_
            obtain ⟨hP9, hD9⟩ := k_c2 (wc := [(kX11 hx aLa aPa aGe aFl aTr aBe aLu aLo vSf vSm vCo vSh xs xl xf), (kX10 aTr aLa aPa aGe gL gR gR gL tgo tca tki tso tbe twe tle (g_3 0) (g_3 1) (g_3 2)), (kX3 gL u0 u1 (g_16 0) (g_16 1)), (kX3 gR v0 v1 (g_16 2) (g_16 3)), (kX4 aLa vLa l4 a4 n4), (kAI vLa cI 24 f4), (kX7 aPa vPa l7 a7 n7), (kAI vPa cI 39 f7), (kX2 aGe vGe l2 a2 n2), (kAI vGe cI 23 f2), (kX1 aFl vFl xn), (kAI vFl cI 32 ff)]) hP hD [0, 7, 8, 9, 10, 11, 1, 2, 3, 4, 5, 6] (by decide +kernel) rfl
            exact W.iret (v := g_16 0) hx₀ hb hr (fun t₀ ht hW => ⟨⟨g_16 0, (k_fn [u0, u1, (g_16 0), (g_16 1), v0, v1, (g_16 2), (g_16 3), tgo, tca, tki, tso, tbe, twe, tle, (g_3 0), (g_3 1), (g_3 2)], k_fa [], k_fl [], k_fL [], k_fp [gR, gL]), rfl, (by rw [if_neg (fun z => z.elim c_12 (by rw [← c_8]; exact (Int32.not_lt.mpr c_13))), if_neg c_24, ← c_8, if_neg (Int32.not_lt.mpr c_14), hgp]), by rw [ht]; exact hP9, va_K.moved hW.alike hK, hD9⟩, hS.F ht⟩) hS.2.2 dX11_strengthBehind_83
          · refine lv_aload_n hx₀ hb dX11_strengthBehind_60 rfl (lv_at hl 1 rfl) ?_
            refine va_get (D := (dC, dI)) (ci := 10) (v := .ref aTr) (C := RX11) (T := TX11) (N := 15) hx₀ hb hts inlX11 hown hK hP 0 rfl rfl 4 (by decide) (hts (.fieldLink RX11 42 "BittenStick" "trip" "LBittenStick$Trip;") wd_31) (fun _ h9 => h9) rfl dX11_strengthBehind_61 ?_
            refine va_get (D := (dC, dI)) (ci := 9) (v := .ref gR) (C := RX10) (T := TX10) (N := 17) hx₀ hb hts inlX10 hown hK hP 7 rfl rfl 5 (by decide) (hts (.fieldLink RX11 351 "BittenStick$Trip" "left" "LBittenStick$Goose;") wd_587) (fun _ h9 => h9) rfl dX11_strengthBehind_64 ?_
            refine va_get (D := (dC, dI)) (ci := 3) (v := .int (g_16 2)) (C := RX3) (T := TX3) (N := 4) hx₀ hb hts inlX3 hown hK hP 9 rfl rfl 2 (by decide) (hts (.fieldLink RX11 355 "BittenStick$Goose" "strong" "I") wd_588) (fun _ h9 => h9) rfl dX11_strengthBehind_67 ?_
            refine lv_goto (tgt := 83) hx₀ hb dX11_strengthBehind_70 (by decide) ?_
            obtain ⟨hP9, hD9⟩ := k_c2 (wc := [(kX11 hx aLa aPa aGe aFl aTr aBe aLu aLo vSf vSm vCo vSh xs xl xf), (kX10 aTr aLa aPa aGe gL gR gR gL tgo tca tki tso tbe twe tle (g_3 0) (g_3 1) (g_3 2)), (kX3 gL u0 u1 (g_16 0) (g_16 1)), (kX3 gR v0 v1 (g_16 2) (g_16 3)), (kX4 aLa vLa l4 a4 n4), (kAI vLa cI 24 f4), (kX7 aPa vPa l7 a7 n7), (kAI vPa cI 39 f7), (kX2 aGe vGe l2 a2 n2), (kAI vGe cI 23 f2), (kX1 aFl vFl xn), (kAI vFl cI 32 ff)]) hP hD [0, 7, 8, 9, 10, 11, 1, 2, 3, 4, 5, 6] (by decide +kernel) rfl
            exact W.iret (v := g_16 2) hx₀ hb hr (fun t₀ ht hW => ⟨⟨g_16 2, (k_fn [u0, u1, (g_16 0), (g_16 1), v0, v1, (g_16 2), (g_16 3), tgo, tca, tki, tso, tbe, twe, tle, (g_3 0), (g_3 1), (g_3 2)], k_fa [], k_fl [], k_fL [], k_fp [gR, gL]), rfl, (by rw [if_neg (fun z => z.elim c_12 (by rw [← c_8]; exact (Int32.not_lt.mpr c_13))), if_pos c_24, ← c_8, if_neg (Int32.not_lt.mpr c_14), hgp]), by rw [ht]; exact hP9, va_K.moved hW.alike hK, hD9⟩, hS.F ht⟩) hS.2.2 dX11_strengthBehind_83
      · refine lv_iconst (v := 1) hx₀ hb dX11_strengthBehind_46 (by decide +kernel) ?_
        refine lv_goto (tgt := 51) hx₀ hb dX11_strengthBehind_47 (by decide) ?_
        obtain ⟨hPc, hDc, hFc, hC⟩ := k_cw (wc := [(kX10 aTr aLa aPa aGe gL gR lf rt tgo tca tki tso tbe twe tle (g_3 0) (g_3 1) (g_3 2)), (kX3 gL u0 u1 u2 u3), (kX3 gR v0 v1 v2 v3), (kX4 aLa vLa l4 a4 n4), (kAI vLa cI 24 f4)]) hP hD hS hA [9, 1, 2, 10, 11] (by decide +kernel) rfl
        refine va_calli (va_runV (As := [.int m1, .int 1]) (rest := []) ⟨hx₀, hb, hml, hown, hts⟩ (e_flyGeese l dC dI cI cJ cQ H.size aTr m1 1 aLa aPa aGe gL gR lf rt tgo tca tki tso tbe twe tle (g_3 0) (g_3 1) (g_3 2) u0 u1 u2 u3 v0 v1 v2 v3 vLa l4 a4 n4 f4 (lf_e_strength_2 m1 r_2 hh2 c_13 c_14)) (cwV 2 hts (kGV wd_469 wd_590 wd_467 wd_468 wd_30) rfl rfl rfl (by decide +kernel) ⟨Nat.le_of_ble_eq_true rfl, Nat.le_of_ble_eq_true rfl⟩) (k_preV9 (q0 := 0) hK hPc hDc hN rfl) rfl rfl hl.1 rfl (lv_room (Nat.le_of_ble_eq_true rfl)) dX11_strengthBehind_51 ⟨by decide +kernel, by decide +kernel⟩) hS (fun q _ h => hFc q h) hFc (fun r_25 u₀ t₀ H1 locs ht hvm hw hB hz1 hk1 hS => ?_)
        obtain ⟨g_26, ga_27, gl_28, gb_29, gp_30⟩ := u₀
        obtain ⟨hP1, hK1, hD1⟩ := hB
        rw [ht] at hP1
        have hJ := k_jn (wr := [(kX11 hx aLa aPa aGe aFl aTr aBe aLu aLo vSf vSm vCo vSh xs xl xf), (kX7 aPa vPa l7 a7 n7), (kAI vPa cI 39 f7), (kX2 aGe vGe l2 a2 n2), (kAI vGe cI 23 f2), (kX1 aFl vFl xn), (kAI vFl cI 32 ff)]) (wt := [(kX11 hx aLa aPa aGe aFl aTr aBe aLu aLo vSf vSm vCo vSh xs xl xf), (kX7 aPa vPa l7 a7 n7), (kAI vPa cI 39 f7), (kX2 aGe vGe l2 a2 n2), (kAI vGe cI 23 f2), (kX1 aFl vFl xn), (kAI vFl cI 32 ff), (kX10 aTr aLa aPa aGe gL gR (gp_30 0) (gp_30 1) tgo tca tki tso tbe twe tle (g_3 0) (g_3 1) (g_3 2)), (kX3 gL u0 u1 (g_26 0) (g_26 1)), (kX3 gR v0 v1 (g_26 2) (g_26 3)), (kX4 aLa vLa l4 a4 n4), (kAI vLa cI 24 f4)]) hP hD hC [0, 3, 4, 5, 6, 7, 8] rfl (by decide +kernel) (by decide +kernel) hk1 hFc hP1 hD1 rfl
        clear hP hD hPc hDc hFc hC hP1 hD1 hK1 hz1 hk1 hvm ht
        obtain ⟨hP, hD⟩ := hJ
        generalize H1 = H at hP hS ⊢
        try dsimp only at hw
        obtain ⟨c_31, c_32⟩ := hw
        refine lv_pop hx₀ hb dX11_strengthBehind_54 rfl ?_
        rcases c_32 with ⟨e1, e2, hgp⟩ | ⟨e1, e2, hgp⟩
        · replace hP : va_P (dC, dI) vwCl [(kX11 hx aLa aPa aGe aFl aTr aBe aLu aLo vSf vSm vCo vSh xs xl xf), (kX7 aPa vPa l7 a7 n7), (kAI vPa cI 39 f7), (kX2 aGe vGe l2 a2 n2), (kAI vGe cI 23 f2), (kX1 aFl vFl xn), (kAI vFl cI 32 ff), (kX10 aTr aLa aPa aGe gL gR gL gR tgo tca tki tso tbe twe tle (g_3 0) (g_3 1) (g_3 2)), (kX3 gL u0 u1 (g_26 0) (g_26 1)), (kX3 gR v0 v1 (g_26 2) (g_26 3)), (kX4 aLa vLa l4 a4 n4), (kAI vLa cI 24 f4)] H := by rw [e1, e2] at hP; exact hP
          replace hD : va_D A [(kX11 hx aLa aPa aGe aFl aTr aBe aLu aLo vSf vSm vCo vSh xs xl xf), (kX7 aPa vPa l7 a7 n7), (kAI vPa cI 39 f7), (kX2 aGe vGe l2 a2 n2), (kAI vGe cI 23 f2), (kX1 aFl vFl xn), (kAI vFl cI 32 ff), (kX10 aTr aLa aPa aGe gL gR gL gR tgo tca tki tso tbe twe tle (g_3 0) (g_3 1) (g_3 2)), (kX3 gL u0 u1 (g_26 0) (g_26 1)), (kX3 gR v0 v1 (g_26 2) (g_26 3)), (kX4 aLa vLa l4 a4 n4), (kAI vLa cI 24 f4)] := by rw [e1, e2] at hD; exact hD
          refine lv_iload_n hx₀ hb dX11_strengthBehind_55 rfl (lv_at hl 4 rfl) ?_
          refine lv_iconst (v := 2) hx₀ hb dX11_strengthBehind_56 (by decide +kernel) ?_
          refine lv_icmp_ne (tgt := 73) hx₀ hb dX11_strengthBehind_57 (by decide) (fun c_33 => ?_) (fun c_33 => ?_)
          · refine lv_aload_n hx₀ hb dX11_strengthBehind_73 rfl (lv_at hl 1 rfl) ?_
            refine va_get (D := (dC, dI)) (ci := 10) (v := .ref aTr) (C := RX11) (T := TX11) (N := 15) hx₀ hb hts inlX11 hown hK hP 0 rfl rfl 4 (by decide) (hts (.fieldLink RX11 42 "BittenStick" "trip" "LBittenStick$Trip;") wd_31) (fun _ h9 => h9) rfl dX11_strengthBehind_74 ?_
            refine va_get (D := (dC, dI)) (ci := 9) (v := .ref gR) (C := RX10) (T := TX10) (N := 17) hx₀ hb hts inlX10 hown hK hP 7 rfl rfl 6 (by decide) (hts (.fieldLink RX11 360 "BittenStick$Trip" "right" "LBittenStick$Goose;") wd_589) (fun _ h9 => h9) rfl dX11_strengthBehind_77 ?_
            refine va_get (D := (dC, dI)) (ci := 3) (v := .int (g_26 2)) (C := RX3) (T := TX3) (N := 4) hx₀ hb hts inlX3 hown hK hP 9 rfl rfl 2 (by decide) (hts (.fieldLink RX11 355 "BittenStick$Goose" "strong" "I") wd_588) (fun _ h9 => h9) rfl dX11_strengthBehind_80 ?_
            obtain ⟨hP9, hD9⟩ := k_c2 (wc := [(kX11 hx aLa aPa aGe aFl aTr aBe aLu aLo vSf vSm vCo vSh xs xl xf), (kX10 aTr aLa aPa aGe gL gR gL gR tgo tca tki tso tbe twe tle (g_3 0) (g_3 1) (g_3 2)), (kX3 gL u0 u1 (g_26 0) (g_26 1)), (kX3 gR v0 v1 (g_26 2) (g_26 3)), (kX4 aLa vLa l4 a4 n4), (kAI vLa cI 24 f4), (kX7 aPa vPa l7 a7 n7), (kAI vPa cI 39 f7), (kX2 aGe vGe l2 a2 n2), (kAI vGe cI 23 f2), (kX1 aFl vFl xn), (kAI vFl cI 32 ff)]) hP hD [0, 7, 8, 9, 10, 11, 1, 2, 3, 4, 5, 6] (by decide +kernel) rfl
            exact W.iret (v := g_26 2) hx₀ hb hr (fun t₀ ht hW => ⟨⟨g_26 2, (k_fn [u0, u1, (g_26 0), (g_26 1), v0, v1, (g_26 2), (g_26 3), tgo, tca, tki, tso, tbe, twe, tle, (g_3 0), (g_3 1), (g_3 2)], k_fa [], k_fl [], k_fL [], k_fp [gL, gR]), rfl, (by rw [if_neg (fun z => z.elim c_12 (by rw [← c_8]; exact (Int32.not_lt.mpr c_13))), if_neg c_33, ← c_8, if_pos (Int32.not_le.mp c_14), hgp]), by rw [ht]; exact hP9, va_K.moved hW.alike hK, hD9⟩, hS.F ht⟩) hS.2.2 dX11_strengthBehind_83
          · refine lv_aload_n hx₀ hb dX11_strengthBehind_60 rfl (lv_at hl 1 rfl) ?_
            refine va_get (D := (dC, dI)) (ci := 10) (v := .ref aTr) (C := RX11) (T := TX11) (N := 15) hx₀ hb hts inlX11 hown hK hP 0 rfl rfl 4 (by decide) (hts (.fieldLink RX11 42 "BittenStick" "trip" "LBittenStick$Trip;") wd_31) (fun _ h9 => h9) rfl dX11_strengthBehind_61 ?_
            refine va_get (D := (dC, dI)) (ci := 9) (v := .ref gL) (C := RX10) (T := TX10) (N := 17) hx₀ hb hts inlX10 hown hK hP 7 rfl rfl 5 (by decide) (hts (.fieldLink RX11 351 "BittenStick$Trip" "left" "LBittenStick$Goose;") wd_587) (fun _ h9 => h9) rfl dX11_strengthBehind_64 ?_
            refine va_get (D := (dC, dI)) (ci := 3) (v := .int (g_26 0)) (C := RX3) (T := TX3) (N := 4) hx₀ hb hts inlX3 hown hK hP 8 rfl rfl 2 (by decide) (hts (.fieldLink RX11 355 "BittenStick$Goose" "strong" "I") wd_588) (fun _ h9 => h9) rfl dX11_strengthBehind_67 ?_
            refine lv_goto (tgt := 83) hx₀ hb dX11_strengthBehind_70 (by decide) ?_
            obtain ⟨hP9, hD9⟩ := k_c2 (wc := [(kX11 hx aLa aPa aGe aFl aTr aBe aLu aLo vSf vSm vCo vSh xs xl xf), (kX10 aTr aLa aPa aGe gL gR gL gR tgo tca tki tso tbe twe tle (g_3 0) (g_3 1) (g_3 2)), (kX3 gL u0 u1 (g_26 0) (g_26 1)), (kX3 gR v0 v1 (g_26 2) (g_26 3)), (kX4 aLa vLa l4 a4 n4), (kAI vLa cI 24 f4), (kX7 aPa vPa l7 a7 n7), (kAI vPa cI 39 f7), (kX2 aGe vGe l2 a2 n2), (kAI vGe cI 23 f2), (kX1 aFl vFl xn), (kAI vFl cI 32 ff)]) hP hD [0, 7, 8, 9, 10, 11, 1, 2, 3, 4, 5, 6] (by decide +kernel) rfl
            exact W.iret (v := g_26 0) hx₀ hb hr (fun t₀ ht hW => ⟨⟨g_26 0, (k_fn [u0, u1, (g_26 0), (g_26 1), v0, v1, (g_26 2), (g_26 3), tgo, tca, tki, tso, tbe, twe, tle, (g_3 0), (g_3 1), (g_3 2)], k_fa [], k_fl [], k_fL [], k_fp [gL, gR]), rfl, (by rw [if_neg (fun z => z.elim c_12 (by rw [← c_8]; exact (Int32.not_lt.mpr c_13))), if_pos c_33, ← c_8, if_pos (Int32.not_le.mp c_14), hgp]), by rw [ht]; exact hP9, va_K.moved hW.alike hK, hD9⟩, hS.F ht⟩) hS.2.2 dX11_strengthBehind_83
        · replace hP : va_P (dC, dI) vwCl [(kX11 hx aLa aPa aGe aFl aTr aBe aLu aLo vSf vSm vCo vSh xs xl xf), (kX7 aPa vPa l7 a7 n7), (kAI vPa cI 39 f7), (kX2 aGe vGe l2 a2 n2), (kAI vGe cI 23 f2), (kX1 aFl vFl xn), (kAI vFl cI 32 ff), (kX10 aTr aLa aPa aGe gL gR gR gL tgo tca tki tso tbe twe tle (g_3 0) (g_3 1) (g_3 2)), (kX3 gL u0 u1 (g_26 0) (g_26 1)), (kX3 gR v0 v1 (g_26 2) (g_26 3)), (kX4 aLa vLa l4 a4 n4), (kAI vLa cI 24 f4)] H := by rw [e1, e2] at hP; exact hP
          replace hD : va_D A [(kX11 hx aLa aPa aGe aFl aTr aBe aLu aLo vSf vSm vCo vSh xs xl xf), (kX7 aPa vPa l7 a7 n7), (kAI vPa cI 39 f7), (kX2 aGe vGe l2 a2 n2), (kAI vGe cI 23 f2), (kX1 aFl vFl xn), (kAI vFl cI 32 ff), (kX10 aTr aLa aPa aGe gL gR gR gL tgo tca tki tso tbe twe tle (g_3 0) (g_3 1) (g_3 2)), (kX3 gL u0 u1 (g_26 0) (g_26 1)), (kX3 gR v0 v1 (g_26 2) (g_26 3)), (kX4 aLa vLa l4 a4 n4), (kAI vLa cI 24 f4)] := by rw [e1, e2] at hD; exact hD
          refine lv_iload_n hx₀ hb dX11_strengthBehind_55 rfl (lv_at hl 4 rfl) ?_
          refine lv_iconst (v := 2) hx₀ hb dX11_strengthBehind_56 (by decide +kernel) ?_
          refine lv_icmp_ne (tgt := 73) hx₀ hb dX11_strengthBehind_57 (by decide) (fun c_34 => ?_) (fun c_34 => ?_)
          · refine lv_aload_n hx₀ hb dX11_strengthBehind_73 rfl (lv_at hl 1 rfl) ?_
            refine va_get (D := (dC, dI)) (ci := 10) (v := .ref aTr) (C := RX11) (T := TX11) (N := 15) hx₀ hb hts inlX11 hown hK hP 0 rfl rfl 4 (by decide) (hts (.fieldLink RX11 42 "BittenStick" "trip" "LBittenStick$Trip;") wd_31) (fun _ h9 => h9) rfl dX11_strengthBehind_74 ?_
            refine va_get (D := (dC, dI)) (ci := 9) (v := .ref gL) (C := RX10) (T := TX10) (N := 17) hx₀ hb hts inlX10 hown hK hP 7 rfl rfl 6 (by decide) (hts (.fieldLink RX11 360 "BittenStick$Trip" "right" "LBittenStick$Goose;") wd_589) (fun _ h9 => h9) rfl dX11_strengthBehind_77 ?_
            refine va_get (D := (dC, dI)) (ci := 3) (v := .int (g_26 0)) (C := RX3) (T := TX3) (N := 4) hx₀ hb hts inlX3 hown hK hP 8 rfl rfl 2 (by decide) (hts (.fieldLink RX11 355 "BittenStick$Goose" "strong" "I") wd_588) (fun _ h9 => h9) rfl dX11_strengthBehind_80 ?_
            obtain ⟨hP9, hD9⟩ := k_c2 (wc := [(kX11 hx aLa aPa aGe aFl aTr aBe aLu aLo vSf vSm vCo vSh xs xl xf), (kX10 aTr aLa aPa aGe gL gR gR gL tgo tca tki tso tbe twe tle (g_3 0) (g_3 1) (g_3 2)), (kX3 gL u0 u1 (g_26 0) (g_26 1)), (kX3 gR v0 v1 (g_26 2) (g_26 3)), (kX4 aLa vLa l4 a4 n4), (kAI vLa cI 24 f4), (kX7 aPa vPa l7 a7 n7), (kAI vPa cI 39 f7), (kX2 aGe vGe l2 a2 n2), (kAI vGe cI 23 f2), (kX1 aFl vFl xn), (kAI vFl cI 32 ff)]) hP hD [0, 7, 8, 9, 10, 11, 1, 2, 3, 4, 5, 6] (by decide +kernel) rfl
            exact W.iret (v := g_26 0) hx₀ hb hr (fun t₀ ht hW => ⟨⟨g_26 0, (k_fn [u0, u1, (g_26 0), (g_26 1), v0, v1, (g_26 2), (g_26 3), tgo, tca, tki, tso, tbe, twe, tle, (g_3 0), (g_3 1), (g_3 2)], k_fa [], k_fl [], k_fL [], k_fp [gR, gL]), rfl, (by rw [if_neg (fun z => z.elim c_12 (by rw [← c_8]; exact (Int32.not_lt.mpr c_13))), if_neg c_34, ← c_8, if_pos (Int32.not_le.mp c_14), hgp]), by rw [ht]; exact hP9, va_K.moved hW.alike hK, hD9⟩, hS.F ht⟩) hS.2.2 dX11_strengthBehind_83
          · refine lv_aload_n hx₀ hb dX11_strengthBehind_60 rfl (lv_at hl 1 rfl) ?_
            refine va_get (D := (dC, dI)) (ci := 10) (v := .ref aTr) (C := RX11) (T := TX11) (N := 15) hx₀ hb hts inlX11 hown hK hP 0 rfl rfl 4 (by decide) (hts (.fieldLink RX11 42 "BittenStick" "trip" "LBittenStick$Trip;") wd_31) (fun _ h9 => h9) rfl dX11_strengthBehind_61 ?_
            refine va_get (D := (dC, dI)) (ci := 9) (v := .ref gR) (C := RX10) (T := TX10) (N := 17) hx₀ hb hts inlX10 hown hK hP 7 rfl rfl 5 (by decide) (hts (.fieldLink RX11 351 "BittenStick$Trip" "left" "LBittenStick$Goose;") wd_587) (fun _ h9 => h9) rfl dX11_strengthBehind_64 ?_
            refine va_get (D := (dC, dI)) (ci := 3) (v := .int (g_26 2)) (C := RX3) (T := TX3) (N := 4) hx₀ hb hts inlX3 hown hK hP 9 rfl rfl 2 (by decide) (hts (.fieldLink RX11 355 "BittenStick$Goose" "strong" "I") wd_588) (fun _ h9 => h9) rfl dX11_strengthBehind_67 ?_
            refine lv_goto (tgt := 83) hx₀ hb dX11_strengthBehind_70 (by decide) ?_
            obtain ⟨hP9, hD9⟩ := k_c2 (wc := [(kX11 hx aLa aPa aGe aFl aTr aBe aLu aLo vSf vSm vCo vSh xs xl xf), (kX10 aTr aLa aPa aGe gL gR gR gL tgo tca tki tso tbe twe tle (g_3 0) (g_3 1) (g_3 2)), (kX3 gL u0 u1 (g_26 0) (g_26 1)), (kX3 gR v0 v1 (g_26 2) (g_26 3)), (kX4 aLa vLa l4 a4 n4), (kAI vLa cI 24 f4), (kX7 aPa vPa l7 a7 n7), (kAI vPa cI 39 f7), (kX2 aGe vGe l2 a2 n2), (kAI vGe cI 23 f2), (kX1 aFl vFl xn), (kAI vFl cI 32 ff)]) hP hD [0, 7, 8, 9, 10, 11, 1, 2, 3, 4, 5, 6] (by decide +kernel) rfl
            exact W.iret (v := g_26 2) hx₀ hb hr (fun t₀ ht hW => ⟨⟨g_26 2, (k_fn [u0, u1, (g_26 0), (g_26 1), v0, v1, (g_26 2), (g_26 3), tgo, tca, tki, tso, tbe, twe, tle, (g_3 0), (g_3 1), (g_3 2)], k_fa [], k_fl [], k_fL [], k_fp [gR, gL]), rfl, (by rw [if_neg (fun z => z.elim c_12 (by rw [← c_8]; exact (Int32.not_lt.mpr c_13))), if_pos c_34, ← c_8, if_pos (Int32.not_le.mp c_14), hgp]), by rw [ht]; exact hP9, va_K.moved hW.alike hK, hD9⟩, hS.F ht⟩) hS.2.2 dX11_strengthBehind_83
    · refine lv_iconst (v := (-1)) hx₀ hb dX11_strengthBehind_33 (by decide +kernel) ?_
      obtain ⟨hP9, hD9⟩ := k_c2 (wc := [(kX11 hx aLa aPa aGe aFl aTr aBe aLu aLo vSf vSm vCo vSh xs xl xf), (kX10 aTr aLa aPa aGe gL gR lf rt tgo tca tki tso tbe twe tle (g_3 0) (g_3 1) (g_3 2)), (kX3 gL u0 u1 u2 u3), (kX3 gR v0 v1 v2 v3), (kX4 aLa vLa l4 a4 n4), (kAI vLa cI 24 f4), (kX7 aPa vPa l7 a7 n7), (kAI vPa cI 39 f7), (kX2 aGe vGe l2 a2 n2), (kAI vGe cI 23 f2), (kX1 aFl vFl xn), (kAI vFl cI 32 ff)]) hP hD [0, 9, 1, 2, 10, 11, 3, 4, 5, 6, 7, 8] (by decide +kernel) rfl
      exact W.iret (v := (-1)) hx₀ hb hr (fun t₀ ht hW => ⟨⟨(-1), (k_fn [u0, u1, u2, u3, v0, v1, v2, v3, tgo, tca, tki, tso, tbe, twe, tle, (g_3 0), (g_3 1), (g_3 2)], k_fa [], k_fl [], k_fL [], k_fp [lf, rt]), rfl, (if_pos (Or.inr (by rw [← c_8]; exact (Int32.not_le.mp c_13)))).symm, by rw [ht]; exact hP9, va_K.moved hW.alike hK, hD9⟩, hS.F ht⟩) hS.2.2 dX11_strengthBehind_34
theorem lf_e_behind_1 (a0 : Int32) (a1 : Int32) (h0 : 0 ≤ a0 ∧ a0 ≤ 24) (h1 : 0 ≤ a1 ∧ a1 < a0) : 0 ≤ a1 ∧ a1.toInt < 2147483647 := by
  first | rfl | assumption | decide | exact Or.inl rfl | (first | omega | (have hr0 := Int32.toInt_lt a0; have hs0 := Int32.le_toInt a0; have hr1 := Int32.toInt_lt a1; have hs1 := Int32.le_toInt a1; simp only [Int64.toInt_add, Int64.toInt_sub, Int32.toInt_add, Int32.toInt_sub, Int32.toInt_mul, Int64.le_iff_toInt_le, Int64.lt_iff_toInt_lt, Int32.le_iff_toInt_le, Int32.lt_iff_toInt_lt, ← Int32.toInt_inj, ← Int64.toInt_inj, Int32.toInt_toInt64, kc_0, kc_24, kc_2147483647] at *; (first | omega | ((try simp (disch := omega) only [k_bm64] at *); (try simp (disch := omega) only [k_bm] at *); (try simp (disch := omega) only [k_bm] at *); omega) | (simp only [Int.bmod] at *; omega))))
set_option maxHeartbeats 4000000 in
set_option maxRecDepth 100000 in
theorem e_behind (l : Launch) (dC : Nat → ClassId) (dI : Nat → Nat → Nat) (cI cJ cQ : ClassId) (sz : Nat) (hx : Nat) (f1 : Int32) (m1 : Int32) (w1 : Int32) (aLa : Nat) (aPa : Nat) (aGe : Nat) (aFl : Nat) (aTr : Nat) (aBe : Nat) (aLu : Nat) (aLo : Nat) (vSf : Nat) (vSm : Nat) (vCo : Nat) (vSh : Nat) (xs : Int32) (xl : Int32) (xf : Int32) (gL : Nat) (gR : Nat) (lf : Nat) (rt : Nat) (tgo : Int32) (tca : Int32) (tki : Int32) (tso : Int32) (tbe : Int32) (twe : Int32) (tle : Int32) (tan : Int32) (tco : Int32) (ten : Int32) (u0 : Int32) (u1 : Int32) (u2 : Int32) (u3 : Int32) (v0 : Int32) (v1 : Int32) (v2 : Int32) (v3 : Int32) (vLa : Nat) (l4 : Int32) (a4 : Int32) (n4 : Int32) (f4 : Nat → Int32) (vPa : Nat) (l7 : Int32) (a7 : Int32) (n7 : Int32) (f7 : Nat → Int32) (vGe : Nat) (l2 : Int32) (a2 : Int32) (n2 : Int32) (f2 : Nat → Int32) (vFl : Nat) (xn : Int32) (ff : Nat → Int32) (hh0 : 0 ≤ n4 ∧ n4 ≤ 24) (hh1 : 0 ≤ xn ∧ xn ≤ 8) : Met l yX11_behind (kW yX11_behind cX11_behind 4 (some .int)) { frames := 4, cells := 0, slots := 0, locals := 94 } (kPre dC dI cI cJ cQ sz [.ref hx, .int f1, .int m1, .int w1] [(kX11 hx aLa aPa aGe aFl aTr aBe aLu aLo vSf vSm vCo vSh xs xl xf), (kX10 aTr aLa aPa aGe gL gR lf rt tgo tca tki tso tbe twe tle tan tco ten), (kX3 gL u0 u1 u2 u3), (kX3 gR v0 v1 v2 v3), (kX4 aLa vLa l4 a4 n4), (kAI vLa cI 24 f4), (kX7 aPa vPa l7 a7 n7), (kAI vPa cI 39 f7), (kX2 aGe vGe l2 a2 n2), (kAI vGe cI 23 f2), (kX1 aFl vFl xn), (kAI vFl cI 32 ff)]) (va_Qi (fun (r : Int32) (u : kS) => (r = if (0 ≤ f1 ∧ f1 < xn) ∧ (0 ≤ m1 ∧ m1 < n4) ∧ 0 ≤ w1 ∧ w1 ≤ 3 then kBC f4 f7 f2 n4 n7 n2 xl (kIt xn ff f1 0) (kIt xn ff f1 1) (kIt xn ff f1 2) (kIt xn ff f1 3) (kAt 39 f7 ((5 * (kIt xn ff f1 0)) + 1)) m1 w1 else -2)) (fun (u : kS) t₀ => kB dC dI cI cJ cQ (va_A [(kX11 hx aLa aPa aGe aFl aTr aBe aLu aLo vSf vSm vCo vSh xs xl xf), (kX10 aTr aLa aPa aGe gL gR lf rt tgo tca tki tso tbe twe tle tan tco ten), (kX3 gL u0 u1 u2 u3), (kX3 gR v0 v1 v2 v3), (kX4 aLa vLa l4 a4 n4), (kAI vLa cI 24 f4), (kX7 aPa vPa l7 a7 n7), (kAI vPa cI 39 f7), (kX2 aGe vGe l2 a2 n2), (kAI vGe cI 23 f2), (kX1 aFl vFl xn), (kAI vFl cI 32 ff)] sz) [(kX11 hx aLa aPa aGe aFl aTr aBe aLu aLo vSf vSm vCo vSh xs xl xf), (kX10 aTr aLa aPa aGe gL gR (u.2.2.2.2 0) (u.2.2.2.2 1) (u.1 8) (u.1 9) (u.1 10) (u.1 11) (u.1 12) (u.1 13) (u.1 14) (u.1 15) (u.1 16) (u.1 17)), (kX3 gL (u.1 0) (u.1 1) (u.1 2) (u.1 3)), (kX3 gR (u.1 4) (u.1 5) (u.1 6) (u.1 7)), (kX4 aLa vLa l4 a4 n4), (kAI vLa cI 24 f4), (kX7 aPa vPa l7 a7 n7), (kAI vPa cI 39 f7), (kX2 aGe vGe l2 a2 n2), (kAI vGe cI 23 f2), (kX1 aFl vFl xn), (kAI vFl cI 32 ff)] t₀) (va_A [(kX11 hx aLa aPa aGe aFl aTr aBe aLu aLo vSf vSm vCo vSh xs xl xf), (kX10 aTr aLa aPa aGe gL gR lf rt tgo tca tki tso tbe twe tle tan tco ten), (kX3 gL u0 u1 u2 u3), (kX3 gR v0 v1 v2 v3), (kX4 aLa vLa l4 a4 n4), (kAI vLa cI 24 f4), (kX7 aPa vPa l7 a7 n7), (kAI vPa cI 39 f7), (kX2 aGe vGe l2 a2 n2), (kAI vGe cI 23 f2), (kX1 aFl vFl xn), (kAI vFl cI 32 ff)] sz)) 0 0 (va_A [(kX11 hx aLa aPa aGe aFl aTr aBe aLu aLo vSf vSm vCo vSh xs xl xf), (kX10 aTr aLa aPa aGe gL gR lf rt tgo tca tki tso tbe twe tle tan tco ten), (kX3 gL u0 u1 u2 u3), (kX3 gR v0 v1 v2 v3), (kX4 aLa vLa l4 a4 n4), (kAI vLa cI 24 f4), (kX7 aPa vPa l7 a7 n7), (kAI vPa cI 39 f7), (kX2 aGe vGe l2 a2 n2), (kAI vGe cI 23 f2), (kX1 aFl vFl xn), (kAI vFl cI 32 ff)] sz) := by
  refine Met.ofW (cc := cX11_behind) (maxL := 4) (ret := (some .int)) (by decide) rfl ?_
  intro p₀ e₀ s₀ m₀ args below meth c₀ s₁ B hml hv₀
  obtain ⟨rfl, hsz, hP, hK, hD0, hN⟩ := hv₀
  have hx₀ := B.exec
  have hb := B.bytes
  have hr := B.returns
  have hts := atoms_spec (ws := (kW yX11_behind cX11_behind 4 (some .int))) B.pre
  have hts := fun w h => hts w (List.mem_cons_of_mem _ h)
  have hown : s₀.vm.findClass RX11 = some m₀.cls := findClass_of_methodNamed B.named
  have hlocks := B.notSynchronized
  subst hsz
  have hD := hD0.self (sz := s₀.heap.size)
  generalize hAe : va_A [(kX11 hx aLa aPa aGe aFl aTr aBe aLu aLo vSf vSm vCo vSh xs xl xf), (kX10 aTr aLa aPa aGe gL gR lf rt tgo tca tki tso tbe twe tle tan tco ten), (kX3 gL u0 u1 u2 u3), (kX3 gR v0 v1 v2 v3), (kX4 aLa vLa l4 a4 n4), (kAI vLa cI 24 f4), (kX7 aPa vPa l7 a7 n7), (kAI vPa cI 39 f7), (kX2 aGe vGe l2 a2 n2), (kAI vGe cI 23 f2), (kX1 aFl vFl xn), (kAI vFl cI 32 ff)] s₀.heap.size = A at hD ⊢
  have hA : ∀ q : Nat, s₀.heap.size ≤ q → A q := fun q h => by rw [← hAe]; exact Or.inr h
  have hS : va_S A s₀.heap s₀.heap [] := va_S.rf
  have hP : va_P (dC, dI) vwCl [(kX11 hx aLa aPa aGe aFl aTr aBe aLu aLo vSf vSm vCo vSh xs xl xf), (kX10 aTr aLa aPa aGe gL gR lf rt tgo tca tki tso tbe twe tle tan tco ten), (kX3 gL u0 u1 u2 u3), (kX3 gR v0 v1 v2 v3), (kX4 aLa vLa l4 a4 n4), (kAI vLa cI 24 f4), (kX7 aPa vPa l7 a7 n7), (kAI vPa cI 39 f7), (kX2 aGe vGe l2 a2 n2), (kAI vGe cI 23 f2), (kX1 aFl vFl xn), (kAI vFl cI 32 ff)] s₀.heap := hP
  have hl := lv_entry ([.ref hx, .int f1, .int m1, .int w1]) (n := 4) (Nat.le_of_ble_eq_true rfl)
  rw [lg_entry_eq]
  generalize (lg_sl ([.ref hx, .int f1, .int m1, .int w1]) ++ List.replicate (4 - (lg_sl ([.ref hx, .int f1, .int m1, .int w1])).length) Slot.unset).toArray = ls at hl ⊢
  have hl : lv_has ls 4 [(0, .ref hx), (1, .int f1), (2, .int m1), (3, .int w1)] := hl
  obtain ⟨H, hH⟩ : ∃ z : Heap, z = s₀.heap := ⟨_, rfl⟩
  rw [← hH] at hP
  have hS : va_S A s₀.heap H [] := by rw [hH]; exact hS
  refine k_heap hH ?_
  have hD : va_D A [(kX11 hx aLa aPa aGe aFl aTr aBe aLu aLo vSf vSm vCo vSh xs xl xf), (kX10 aTr aLa aPa aGe gL gR lf rt tgo tca tki tso tbe twe tle tan tco ten), (kX3 gL u0 u1 u2 u3), (kX3 gR v0 v1 v2 v3), (kX4 aLa vLa l4 a4 n4), (kAI vLa cI 24 f4), (kX7 aPa vPa l7 a7 n7), (kAI vPa cI 39 f7), (kX2 aGe vGe l2 a2 n2), (kAI vGe cI 23 f2), (kX1 aFl vFl xn), (kAI vFl cI 32 ff)] := hD
  obtain ⟨locs, hlo⟩ : ∃ z : List Loc, z = [] := ⟨_, rfl⟩
  rw [← hlo] at hS ⊢
  clear hlo hH hAe hD0
  refine lv_aload_n hx₀ hb dX11_behind_0 rfl (lv_at hl 0 rfl) ?_
  refine va_get (D := (dC, dI)) (ci := 10) (v := .ref aFl) (C := RX11) (T := TX11) (N := 15) hx₀ hb hts inlX11 hown hK hP 0 rfl rfl 3 (by decide) (hts (.fieldLink RX11 33 "BittenStick" "flights" "LBittenStick$Flights;") wd_27) (fun _ h9 => h9) rfl dX11_behind_1 ?_
  refine lv_iload_n hx₀ hb dX11_behind_4 rfl (lv_at hl 1 rfl) ?_
  obtain ⟨hPc, hDc, hFc, hC⟩ := k_cw (wc := [(kX1 aFl vFl xn)]) hP hD hS hA [10] (by decide +kernel) rfl
  refine va_calli (va_runV (As := [.int f1]) (rest := []) ⟨hx₀, hb, hml, hown, hts⟩ (j_fHas l dC dI cI cJ cQ H.size aFl f1 vFl xn) (cwV 1 hts (kGV wd_426 wd_423 wd_424 wd_425 wd_26) rfl rfl rfl (by decide +kernel) ⟨Nat.le_of_ble_eq_true rfl, Nat.le_of_ble_eq_true rfl⟩) (k_preV1 (q0 := 0) hK hPc hDc hN rfl) rfl rfl hl.1 rfl (lv_room (Nat.le_of_ble_eq_true rfl)) dX11_behind_5 ⟨by decide +kernel, by decide +kernel⟩) hS (fun q _ h => hFc q h) hFc (fun r_1 u₀ t₀ H1 locs ht hvm hw hB hz1 hk1 hS => ?_)
  obtain ⟨hP1, hK1, hD1⟩ := hB
  rw [ht] at hP1
  have hJ := k_jn (wr := [(kX11 hx aLa aPa aGe aFl aTr aBe aLu aLo vSf vSm vCo vSh xs xl xf), (kX10 aTr aLa aPa aGe gL gR lf rt tgo tca tki tso tbe twe tle tan tco ten), (kX3 gL u0 u1 u2 u3), (kX3 gR v0 v1 v2 v3), (kX4 aLa vLa l4 a4 n4), (kAI vLa cI 24 f4), (kX7 aPa vPa l7 a7 n7), (kAI vPa cI 39 f7), (kX2 aGe vGe l2 a2 n2), (kAI vGe cI 23 f2), (kAI vFl cI 32 ff)]) (wt := [(kX11 hx aLa aPa aGe aFl aTr aBe aLu aLo vSf vSm vCo vSh xs xl xf), (kX10 aTr aLa aPa aGe gL gR lf rt tgo tca tki tso tbe twe tle tan tco ten), (kX3 gL u0 u1 u2 u3), (kX3 gR v0 v1 v2 v3), (kX4 aLa vLa l4 a4 n4), (kAI vLa cI 24 f4), (kX7 aPa vPa l7 a7 n7), (kAI vPa cI 39 f7), (kX2 aGe vGe l2 a2 n2), (kAI vGe cI 23 f2), (kAI vFl cI 32 ff), (kX1 aFl vFl xn)]) hP hD hC [0, 1, 2, 3, 4, 5, 6, 7, 8, 9, 11] rfl (by decide +kernel) (by decide +kernel) hk1 hFc hP1 hD1 rfl
  clear hP hD hPc hDc hFc hC hP1 hD1 hK1 hz1 hk1 hvm ht
  obtain ⟨hP, hD⟩ := hJ
  generalize H1 = H at hP hS ⊢
  try dsimp only at hw
  by_cases c_2 : 0 ≤ f1 ∧ f1 < xn
  · rw [if_pos c_2] at hw
    refine k_topi (v := 1) hw ?_
    refine lv_if_eq (tgt := 31) hx₀ hb dX11_behind_8 (by decide) (fun c9 => absurd c9 (by decide +kernel)) (fun _ => ?_)
    refine lv_aload_n hx₀ hb dX11_behind_11 rfl (lv_at hl 0 rfl) ?_
    refine va_get (D := (dC, dI)) (ci := 10) (v := .ref aLa) (C := RX11) (T := TX11) (N := 15) hx₀ hb hts inlX11 hown hK hP 0 rfl rfl 0 (by decide) (hts (.fieldLink RX11 10 "BittenStick" "land" "LBittenStick$Land;") wd_15) (fun _ h9 => h9) rfl dX11_behind_12 ?_
    refine lv_iload_n hx₀ hb dX11_behind_15 rfl (lv_at hl 2 rfl) ?_
    obtain ⟨hPc, hDc, hFc, hC⟩ := k_cw (wc := [(kX4 aLa vLa l4 a4 n4)]) hP hD hS hA [4] (by decide +kernel) rfl
    refine va_calli (va_runU (As := [.int m1]) (rest := []) ⟨hx₀, hb, hml, hown, hts⟩ (j_has_X4 l dC dI cI cJ cQ H.size aLa m1 vLa l4 a4 n4) (va_cwU 1 hts (kGU wd_307 wd_573 wd_518 wd_519 wd_306 wd_57) rfl rfl rfl rfl (by decide +kernel) ⟨Nat.le_of_ble_eq_true rfl, Nat.le_of_ble_eq_true rfl⟩) (k_preV4 (q0 := 0) hK hPc hDc hN rfl) rfl rfl hl.1 rfl (lv_room (Nat.le_of_ble_eq_true rfl)) dX11_behind_16 ⟨by decide +kernel, by decide +kernel⟩) hS (fun q _ h => hFc q h) hFc (fun r_3 u₀ t₀ H1 locs ht hvm hw hB hz1 hk1 hS => ?_)
    obtain ⟨hP1, hK1, hD1⟩ := hB
    rw [ht] at hP1
    have hJ := k_jn (wr := [(kX11 hx aLa aPa aGe aFl aTr aBe aLu aLo vSf vSm vCo vSh xs xl xf), (kX10 aTr aLa aPa aGe gL gR lf rt tgo tca tki tso tbe twe tle tan tco ten), (kX3 gL u0 u1 u2 u3), (kX3 gR v0 v1 v2 v3), (kAI vLa cI 24 f4), (kX7 aPa vPa l7 a7 n7), (kAI vPa cI 39 f7), (kX2 aGe vGe l2 a2 n2), (kAI vGe cI 23 f2), (kAI vFl cI 32 ff), (kX1 aFl vFl xn)]) (wt := [(kX11 hx aLa aPa aGe aFl aTr aBe aLu aLo vSf vSm vCo vSh xs xl xf), (kX10 aTr aLa aPa aGe gL gR lf rt tgo tca tki tso tbe twe tle tan tco ten), (kX3 gL u0 u1 u2 u3), (kX3 gR v0 v1 v2 v3), (kAI vLa cI 24 f4), (kX7 aPa vPa l7 a7 n7), (kAI vPa cI 39 f7), (kX2 aGe vGe l2 a2 n2), (kAI vGe cI 23 f2), (kAI vFl cI 32 ff), (kX1 aFl vFl xn), (kX4 aLa vLa l4 a4 n4)]) hP hD hC [0, 1, 2, 3, 5, 6, 7, 8, 9, 10, 11] rfl (by decide +kernel) (by decide +kernel) hk1 hFc hP1 hD1 rfl
    clear hP hD hPc hDc hFc hC hP1 hD1 hK1 hz1 hk1 hvm ht
    obtain ⟨hP, hD⟩ := hJ
    generalize H1 = H at hP hS ⊢
    try dsimp only at hw
    by_cases c_4 : 0 ≤ m1 ∧ m1 < n4
    · rw [if_pos c_4] at hw
      refine k_topi (v := 1) hw ?_
      refine lv_if_eq (tgt := 31) hx₀ hb dX11_behind_19 (by decide) (fun c9 => absurd c9 (by decide +kernel)) (fun _ => ?_)
      refine lv_iload_n hx₀ hb dX11_behind_22 rfl (lv_at hl 3 rfl) ?_
      refine lv_if_lt (tgt := 31) hx₀ hb dX11_behind_23 (by decide) (fun c_5 => ?_) (fun c_5 => ?_)
      · refine lv_bipush (v := (-2)) hx₀ hb dX11_behind_31 (by decide +kernel) ?_
        obtain ⟨hP9, hD9⟩ := k_c2 (wc := [(kX11 hx aLa aPa aGe aFl aTr aBe aLu aLo vSf vSm vCo vSh xs xl xf), (kX10 aTr aLa aPa aGe gL gR lf rt tgo tca tki tso tbe twe tle tan tco ten), (kX3 gL u0 u1 u2 u3), (kX3 gR v0 v1 v2 v3), (kX4 aLa vLa l4 a4 n4), (kAI vLa cI 24 f4), (kX7 aPa vPa l7 a7 n7), (kAI vPa cI 39 f7), (kX2 aGe vGe l2 a2 n2), (kAI vGe cI 23 f2), (kX1 aFl vFl xn), (kAI vFl cI 32 ff)]) hP hD [0, 1, 2, 3, 11, 4, 5, 6, 7, 8, 10, 9] (by decide +kernel) rfl
        exact W.iret (v := (-2)) hx₀ hb hr (fun t₀ ht hW => ⟨⟨(-2), (k_fn [u0, u1, u2, u3, v0, v1, v2, v3, tgo, tca, tki, tso, tbe, twe, tle, tan, tco, ten], k_fa [], k_fl [], k_fL [], k_fp [lf, rt]), rfl, (if_neg (show ¬ ((0 ≤ f1 ∧ f1 < xn) ∧ (0 ≤ m1 ∧ m1 < n4) ∧ 0 ≤ w1 ∧ w1 ≤ 3) from (fun z => (Int32.not_le.mpr c_5) z.2.2.1))).symm, by rw [ht]; exact hP9, va_K.moved hW.alike hK, hD9⟩, hS.F ht⟩) hS.2.2 dX11_behind_33
      · refine lv_iload_n hx₀ hb dX11_behind_26 rfl (lv_at hl 3 rfl) ?_
        refine lv_iconst (v := 3) hx₀ hb dX11_behind_27 (by decide +kernel) ?_
        refine lv_icmp_le (tgt := 34) hx₀ hb dX11_behind_28 (by decide) (fun c_6 => ?_) (fun c_6 => ?_)
        · refine lv_aload_n hx₀ hb dX11_behind_34 rfl (lv_at hl 0 rfl) ?_
          refine lv_iload_n hx₀ hb dX11_behind_35 rfl (lv_at hl 1 rfl) ?_
          obtain ⟨hPc, hDc, hFc, hC⟩ := k_cw (wc := [(kX11 hx aLa aPa aGe aFl aTr aBe aLu aLo vSf vSm vCo vSh xs xl xf), (kX10 aTr aLa aPa aGe gL gR lf rt tgo tca tki tso tbe twe tle tan tco ten), (kX3 gL u0 u1 u2 u3), (kX3 gR v0 v1 v2 v3), (kX4 aLa vLa l4 a4 n4), (kAI vLa cI 24 f4), (kX7 aPa vPa l7 a7 n7), (kAI vPa cI 39 f7), (kX2 aGe vGe l2 a2 n2), (kAI vGe cI 23 f2), (kX1 aFl vFl xn), (kAI vFl cI 32 ff)]) hP hD hS hA [0, 1, 2, 3, 11, 4, 5, 6, 7, 8, 10, 9] (by decide +kernel) rfl
          refine va_callv (va_runV (As := [.int f1]) (rest := []) ⟨hx₀, hb, hml, hown, hts⟩ (e_prepare l dC dI cI cJ cQ H.size hx f1 aLa aPa aGe aFl aTr aBe aLu aLo vSf vSm vCo vSh xs xl xf gL gR lf rt tgo tca tki tso tbe twe tle tan tco ten u0 u1 u2 u3 v0 v1 v2 v3 vLa l4 a4 n4 f4 vPa l7 a7 n7 f7 vGe l2 a2 n2 f2 vFl xn ff (hh0) (hh1)) (cwV 1 hts (kGV wd_430 wd_427 wd_428 wd_429 wd_2) rfl rfl rfl (by decide +kernel) ⟨Nat.le_of_ble_eq_true rfl, Nat.le_of_ble_eq_true rfl⟩) (k_preV10 (q0 := 0) hK hPc hDc hN rfl) rfl rfl hl.1 rfl (lv_room (Nat.le_of_ble_eq_true rfl)) dX11_behind_36 ⟨by decide +kernel, by decide +kernel⟩) hS (fun q _ h => hFc q h) hFc (fun u₀ t₀ H1 locs ht hvm hw hB hz1 hk1 hS => ?_)
          obtain ⟨g_8, ga_9, gl_10, gb_11, gp_12⟩ := u₀
          obtain ⟨hP1, hK1, hD1⟩ := hB
          rw [ht] at hP1
          have hJ := k_jn (wr := []) (wt := [(kX11 hx aLa aPa aGe aFl aTr aBe aLu aLo vSf vSm vCo vSh xs xl xf), (kX10 aTr aLa aPa aGe gL gR (gp_12 0) (gp_12 1) (g_8 8) (g_8 9) (g_8 10) (g_8 11) (g_8 12) (g_8 13) (g_8 14) (g_8 15) (g_8 16) (g_8 17)), (kX3 gL (g_8 0) (g_8 1) (g_8 2) (g_8 3)), (kX3 gR (g_8 4) (g_8 5) (g_8 6) (g_8 7)), (kX4 aLa vLa l4 a4 n4), (kAI vLa cI 24 f4), (kX7 aPa vPa l7 a7 n7), (kAI vPa cI 39 f7), (kX2 aGe vGe l2 a2 n2), (kAI vGe cI 23 f2), (kX1 aFl vFl xn), (kAI vFl cI 32 ff)]) hP hD hC [] rfl (by decide +kernel) (by decide +kernel) hk1 hFc hP1 hD1 rfl
          clear hP hD hPc hDc hFc hC hP1 hD1 hK1 hz1 hk1 hvm ht
          obtain ⟨hP, hD⟩ := hJ
          generalize H1 = H at hP hS ⊢
          try dsimp only at hw
          obtain ⟨c_13, c_14, c_15, c_16, c_17, c_18, c_19, c_20, c_21, c_22, c_23⟩ := hw
          refine lv_iload_n hx₀ hb dX11_behind_39 rfl (lv_at hl 3 rfl) ?_
          refine lv_iconst (v := 2) hx₀ hb dX11_behind_40 (by decide +kernel) ?_
          refine lv_icmp_ge (tgt := 54) hx₀ hb dX11_behind_41 (by decide) (fun c_24 => ?_) (fun c_24 => ?_)
          · refine lv_aload_n hx₀ hb dX11_behind_54 rfl (lv_at hl 0 rfl) ?_
            refine lv_iload_n hx₀ hb dX11_behind_55 rfl (lv_at hl 1 rfl) ?_
            refine lv_iload_n hx₀ hb dX11_behind_56 rfl (lv_at hl 2 rfl) ?_
            refine lv_iload_n hx₀ hb dX11_behind_57 rfl (lv_at hl 3 rfl) ?_
            obtain ⟨hPc, hDc, hFc, hC⟩ := k_cw (wc := [(kX11 hx aLa aPa aGe aFl aTr aBe aLu aLo vSf vSm vCo vSh xs xl xf), (kX10 aTr aLa aPa aGe gL gR (gp_12 0) (gp_12 1) (g_8 8) (g_8 9) (g_8 10) (g_8 11) (g_8 12) (g_8 13) (g_8 14) (g_8 15) (g_8 16) (g_8 17)), (kX3 gL (g_8 0) (g_8 1) (g_8 2) (g_8 3)), (kX3 gR (g_8 4) (g_8 5) (g_8 6) (g_8 7)), (kX4 aLa vLa l4 a4 n4), (kAI vLa cI 24 f4), (kX7 aPa vPa l7 a7 n7), (kAI vPa cI 39 f7), (kX2 aGe vGe l2 a2 n2), (kAI vGe cI 23 f2), (kX1 aFl vFl xn), (kAI vFl cI 32 ff)]) hP hD hS hA [0, 1, 2, 3, 4, 5, 6, 7, 8, 9, 10, 11] (by decide +kernel) rfl
            refine va_calli (va_runV (As := [.int f1, .int m1, .int w1]) (rest := []) ⟨hx₀, hb, hml, hown, hts⟩ (e_strength l dC dI cI cJ cQ H.size hx f1 m1 w1 aLa aPa aGe aFl aTr aBe aLu aLo vSf vSm vCo vSh xs xl xf gL gR (gp_12 0) (gp_12 1) (g_8 8) (g_8 9) (g_8 10) (g_8 11) (g_8 12) (g_8 13) (g_8 14) (g_8 15) (g_8 16) (g_8 17) (g_8 0) (g_8 1) (g_8 2) (g_8 3) (g_8 4) (g_8 5) (g_8 6) (g_8 7) vLa l4 a4 n4 f4 vPa l7 a7 n7 f7 vGe l2 a2 n2 f2 vFl xn ff (hh0) (hh1) (lf_e_behind_1 n4 m1 hh0 c_4)) (cwV 3 hts (kGV wd_586 wd_583 wd_584 wd_585 wd_2) rfl rfl rfl (by decide +kernel) ⟨Nat.le_of_ble_eq_true rfl, Nat.le_of_ble_eq_true rfl⟩) (k_preV10 (q0 := 0) hK hPc hDc hN rfl) rfl rfl hl.1 rfl (lv_room (Nat.le_of_ble_eq_true rfl)) dX11_behind_58 ⟨by decide +kernel, by decide +kernel⟩) hS (fun q _ h => hFc q h) hFc (fun r_25 u₀ t₀ H1 locs ht hvm hw hB hz1 hk1 hS => ?_)
            obtain ⟨g_26, ga_27, gl_28, gb_29, gp_30⟩ := u₀
            obtain ⟨hP1, hK1, hD1⟩ := hB
            rw [ht] at hP1
            have hJ := k_jn (wr := []) (wt := [(kX11 hx aLa aPa aGe aFl aTr aBe aLu aLo vSf vSm vCo vSh xs xl xf), (kX10 aTr aLa aPa aGe gL gR (gp_30 0) (gp_30 1) (g_26 8) (g_26 9) (g_26 10) (g_26 11) (g_26 12) (g_26 13) (g_26 14) (g_26 15) (g_26 16) (g_26 17)), (kX3 gL (g_26 0) (g_26 1) (g_26 2) (g_26 3)), (kX3 gR (g_26 4) (g_26 5) (g_26 6) (g_26 7)), (kX4 aLa vLa l4 a4 n4), (kAI vLa cI 24 f4), (kX7 aPa vPa l7 a7 n7), (kAI vPa cI 39 f7), (kX2 aGe vGe l2 a2 n2), (kAI vGe cI 23 f2), (kX1 aFl vFl xn), (kAI vFl cI 32 ff)]) hP hD hC [] rfl (by decide +kernel) (by decide +kernel) hk1 hFc hP1 hD1 rfl
            clear hP hD hPc hDc hFc hC hP1 hD1 hK1 hz1 hk1 hvm ht
            obtain ⟨hP, hD⟩ := hJ
            generalize H1 = H at hP hS ⊢
            try dsimp only at hw
            have c_31 := hw
            obtain ⟨hP9, hD9⟩ := k_c2 (wc := [(kX11 hx aLa aPa aGe aFl aTr aBe aLu aLo vSf vSm vCo vSh xs xl xf), (kX10 aTr aLa aPa aGe gL gR (gp_30 0) (gp_30 1) (g_26 8) (g_26 9) (g_26 10) (g_26 11) (g_26 12) (g_26 13) (g_26 14) (g_26 15) (g_26 16) (g_26 17)), (kX3 gL (g_26 0) (g_26 1) (g_26 2) (g_26 3)), (kX3 gR (g_26 4) (g_26 5) (g_26 6) (g_26 7)), (kX4 aLa vLa l4 a4 n4), (kAI vLa cI 24 f4), (kX7 aPa vPa l7 a7 n7), (kAI vPa cI 39 f7), (kX2 aGe vGe l2 a2 n2), (kAI vGe cI 23 f2), (kX1 aFl vFl xn), (kAI vFl cI 32 ff)]) hP hD [0, 1, 2, 3, 4, 5, 6, 7, 8, 9, 10, 11] (by decide +kernel) rfl
            exact W.iret (v := r_25) hx₀ hb hr (fun t₀ ht hW => ⟨⟨r_25, (k_fn [(g_26 0), (g_26 1), (g_26 2), (g_26 3), (g_26 4), (g_26 5), (g_26 6), (g_26 7), (g_26 8), (g_26 9), (g_26 10), (g_26 11), (g_26 12), (g_26 13), (g_26 14), (g_26 15), (g_26 16), (g_26 17)], k_fa [], k_fl [], k_fL [], k_fp [(gp_30 0), (gp_30 1)]), rfl, (by rw [if_pos (show (0 ≤ f1 ∧ f1 < xn) ∧ (0 ≤ m1 ∧ m1 < n4) ∧ 0 ≤ w1 ∧ w1 ≤ 3 from ⟨⟨c_2.1, c_2.2⟩, ⟨c_4.1, c_4.2⟩, (Int32.not_lt.mp c_5), c_6⟩)]; have h9 := c_31; rw [c_23] at h9; exact h9.trans (kBh_g hh0.1 c_13 c_14 (fun c => c_15.trans (if_pos c)) (fun c => c_16.trans (if_pos c)) (fun c => c_17.trans (if_pos c)) (fun c => c_18.trans (if_pos c)) (fun c => c_19.trans (if_pos c)) (fun c => c_20.trans (if_pos c)) (fun c => c_21.trans (if_pos c)) (fun c => c_22.trans (if_pos c)) (Int32.not_lt.mpr c_24))), by rw [ht]; exact hP9, va_K.moved hW.alike hK, hD9⟩, hS.F ht⟩) hS.2.2 dX11_behind_61
          · refine lv_aload_n hx₀ hb dX11_behind_44 rfl (lv_at hl 0 rfl) ?_
            refine lv_iload_n hx₀ hb dX11_behind_45 rfl (lv_at hl 1 rfl) ?_
            refine lv_iload_n hx₀ hb dX11_behind_46 rfl (lv_at hl 2 rfl) ?_
            refine lv_iload_n hx₀ hb dX11_behind_47 rfl (lv_at hl 3 rfl) ?_
            obtain ⟨hPc, hDc, hFc, hC⟩ := k_cw (wc := [(kX11 hx aLa aPa aGe aFl aTr aBe aLu aLo vSf vSm vCo vSh xs xl xf), (kX10 aTr aLa aPa aGe gL gR (gp_12 0) (gp_12 1) (g_8 8) (g_8 9) (g_8 10) (g_8 11) (g_8 12) (g_8 13) (g_8 14) (g_8 15) (g_8 16) (g_8 17)), (kX4 aLa vLa l4 a4 n4), (kAI vLa cI 24 f4), (kX1 aFl vFl xn), (kAI vFl cI 32 ff)]) hP hD hS hA [0, 1, 4, 5, 10, 11] (by decide +kernel) rfl
            refine va_calli (va_runV (As := [.int f1, .int m1, .int w1]) (rest := []) ⟨hx₀, hb, hml, hown, hts⟩ (j_moodBehind l dC dI cI cJ cQ H.size hx f1 m1 w1 aLa aPa aGe aFl aTr aBe aLu aLo vSf vSm vCo vSh xs xl xf gL gR (gp_12 0) (gp_12 1) (g_8 8) (g_8 9) (g_8 10) (g_8 11) (g_8 12) (g_8 13) (g_8 14) (g_8 15) (g_8 16) (g_8 17) vLa l4 a4 n4 f4 vFl xn ff (hh1) (lf_e_behind_1 n4 m1 hh0 c_4)) (cwV 3 hts (kGV wd_577 wd_574 wd_575 wd_576 wd_2) rfl rfl rfl (by decide +kernel) ⟨Nat.le_of_ble_eq_true rfl, Nat.le_of_ble_eq_true rfl⟩) (k_preV10 (q0 := 0) hK hPc hDc hN rfl) rfl rfl hl.1 rfl (lv_room (Nat.le_of_ble_eq_true rfl)) dX11_behind_48 ⟨by decide +kernel, by decide +kernel⟩) hS (fun q _ h => hFc q h) hFc (fun r_32 u₀ t₀ H1 locs ht hvm hw hB hz1 hk1 hS => ?_)
            obtain ⟨g_33, ga_34, gl_35, gb_36, gp_37⟩ := u₀
            obtain ⟨hP1, hK1, hD1⟩ := hB
            rw [ht] at hP1
            have hJ := k_jn (wr := [(kX3 gL (g_8 0) (g_8 1) (g_8 2) (g_8 3)), (kX3 gR (g_8 4) (g_8 5) (g_8 6) (g_8 7)), (kX7 aPa vPa l7 a7 n7), (kAI vPa cI 39 f7), (kX2 aGe vGe l2 a2 n2), (kAI vGe cI 23 f2)]) (wt := [(kX3 gL (g_8 0) (g_8 1) (g_8 2) (g_8 3)), (kX3 gR (g_8 4) (g_8 5) (g_8 6) (g_8 7)), (kX7 aPa vPa l7 a7 n7), (kAI vPa cI 39 f7), (kX2 aGe vGe l2 a2 n2), (kAI vGe cI 23 f2), (kX11 hx aLa aPa aGe aFl aTr aBe aLu aLo vSf vSm vCo vSh xs xl xf), (kX10 aTr aLa aPa aGe gL gR (gp_12 0) (gp_12 1) (g_8 8) (g_8 9) (g_8 10) (g_8 11) (g_8 12) (g_8 13) (g_8 14) (g_33 0) (g_33 1) (g_33 2)), (kX4 aLa vLa l4 a4 n4), (kAI vLa cI 24 f4), (kX1 aFl vFl xn), (kAI vFl cI 32 ff)]) hP hD hC [2, 3, 6, 7, 8, 9] rfl (by decide +kernel) (by decide +kernel) hk1 hFc hP1 hD1 rfl
            clear hP hD hPc hDc hFc hC hP1 hD1 hK1 hz1 hk1 hvm ht
            obtain ⟨hP, hD⟩ := hJ
            generalize H1 = H at hP hS ⊢
            try dsimp only at hw
            have c_38 := hw
            refine lv_goto (tgt := 61) hx₀ hb dX11_behind_51 (by decide) ?_
            obtain ⟨hP9, hD9⟩ := k_c2 (wc := [(kX11 hx aLa aPa aGe aFl aTr aBe aLu aLo vSf vSm vCo vSh xs xl xf), (kX10 aTr aLa aPa aGe gL gR (gp_12 0) (gp_12 1) (g_8 8) (g_8 9) (g_8 10) (g_8 11) (g_8 12) (g_8 13) (g_8 14) (g_33 0) (g_33 1) (g_33 2)), (kX3 gL (g_8 0) (g_8 1) (g_8 2) (g_8 3)), (kX3 gR (g_8 4) (g_8 5) (g_8 6) (g_8 7)), (kX4 aLa vLa l4 a4 n4), (kAI vLa cI 24 f4), (kX7 aPa vPa l7 a7 n7), (kAI vPa cI 39 f7), (kX2 aGe vGe l2 a2 n2), (kAI vGe cI 23 f2), (kX1 aFl vFl xn), (kAI vFl cI 32 ff)]) hP hD [6, 7, 0, 1, 8, 9, 2, 3, 4, 5, 10, 11] (by decide +kernel) rfl
            exact W.iret (v := r_32) hx₀ hb hr (fun t₀ ht hW => ⟨⟨r_32, (k_fn [(g_8 0), (g_8 1), (g_8 2), (g_8 3), (g_8 4), (g_8 5), (g_8 6), (g_8 7), (g_8 8), (g_8 9), (g_8 10), (g_8 11), (g_8 12), (g_8 13), (g_8 14), (g_33 0), (g_33 1), (g_33 2)], k_fa [], k_fl [], k_fL [], k_fp [(gp_12 0), (gp_12 1)]), rfl, (by rw [if_pos (show (0 ≤ f1 ∧ f1 < xn) ∧ (0 ≤ m1 ∧ m1 < n4) ∧ 0 ≤ w1 ∧ w1 ≤ 3 from ⟨⟨c_2.1, c_2.2⟩, ⟨c_4.1, c_4.2⟩, (Int32.not_lt.mp c_5), c_6⟩)]; have h9 := c_38; rw [c_23] at h9; exact h9.trans (kBh_m c_13 c_14 (fun c => c_15.trans (if_pos c)) (fun c => c_16.trans (if_pos c)) (fun c => c_17.trans (if_pos c)) (Int32.not_le.mp c_24))), by rw [ht]; exact hP9, va_K.moved hW.alike hK, hD9⟩, hS.F ht⟩) hS.2.2 dX11_behind_61
        · refine lv_bipush (v := (-2)) hx₀ hb dX11_behind_31 (by decide +kernel) ?_
          obtain ⟨hP9, hD9⟩ := k_c2 (wc := [(kX11 hx aLa aPa aGe aFl aTr aBe aLu aLo vSf vSm vCo vSh xs xl xf), (kX10 aTr aLa aPa aGe gL gR lf rt tgo tca tki tso tbe twe tle tan tco ten), (kX3 gL u0 u1 u2 u3), (kX3 gR v0 v1 v2 v3), (kX4 aLa vLa l4 a4 n4), (kAI vLa cI 24 f4), (kX7 aPa vPa l7 a7 n7), (kAI vPa cI 39 f7), (kX2 aGe vGe l2 a2 n2), (kAI vGe cI 23 f2), (kX1 aFl vFl xn), (kAI vFl cI 32 ff)]) hP hD [0, 1, 2, 3, 11, 4, 5, 6, 7, 8, 10, 9] (by decide +kernel) rfl
          exact W.iret (v := (-2)) hx₀ hb hr (fun t₀ ht hW => ⟨⟨(-2), (k_fn [u0, u1, u2, u3, v0, v1, v2, v3, tgo, tca, tki, tso, tbe, twe, tle, tan, tco, ten], k_fa [], k_fl [], k_fL [], k_fp [lf, rt]), rfl, (if_neg (show ¬ ((0 ≤ f1 ∧ f1 < xn) ∧ (0 ≤ m1 ∧ m1 < n4) ∧ 0 ≤ w1 ∧ w1 ≤ 3) from (fun z => c_6 z.2.2.2))).symm, by rw [ht]; exact hP9, va_K.moved hW.alike hK, hD9⟩, hS.F ht⟩) hS.2.2 dX11_behind_33
    rw [if_neg c_4] at hw
    refine k_topi (v := 0) hw ?_
    refine lv_if_eq (tgt := 31) hx₀ hb dX11_behind_19 (by decide) (fun _ => ?_) (fun c9 => absurd (by decide +kernel) c9)
    refine lv_bipush (v := (-2)) hx₀ hb dX11_behind_31 (by decide +kernel) ?_
    obtain ⟨hP9, hD9⟩ := k_c2 (wc := [(kX11 hx aLa aPa aGe aFl aTr aBe aLu aLo vSf vSm vCo vSh xs xl xf), (kX10 aTr aLa aPa aGe gL gR lf rt tgo tca tki tso tbe twe tle tan tco ten), (kX3 gL u0 u1 u2 u3), (kX3 gR v0 v1 v2 v3), (kX4 aLa vLa l4 a4 n4), (kAI vLa cI 24 f4), (kX7 aPa vPa l7 a7 n7), (kAI vPa cI 39 f7), (kX2 aGe vGe l2 a2 n2), (kAI vGe cI 23 f2), (kX1 aFl vFl xn), (kAI vFl cI 32 ff)]) hP hD [0, 1, 2, 3, 11, 4, 5, 6, 7, 8, 10, 9] (by decide +kernel) rfl
    exact W.iret (v := (-2)) hx₀ hb hr (fun t₀ ht hW => ⟨⟨(-2), (k_fn [u0, u1, u2, u3, v0, v1, v2, v3, tgo, tca, tki, tso, tbe, twe, tle, tan, tco, ten], k_fa [], k_fl [], k_fL [], k_fp [lf, rt]), rfl, (if_neg (show ¬ ((0 ≤ f1 ∧ f1 < xn) ∧ (0 ≤ m1 ∧ m1 < n4) ∧ 0 ≤ w1 ∧ w1 ≤ 3) from (fun z => c_4 z.2.1))).symm, by rw [ht]; exact hP9, va_K.moved hW.alike hK, hD9⟩, hS.F ht⟩) hS.2.2 dX11_behind_33
  rw [if_neg c_2] at hw
  refine k_topi (v := 0) hw ?_
  refine lv_if_eq (tgt := 31) hx₀ hb dX11_behind_8 (by decide) (fun _ => ?_) (fun c9 => absurd (by decide +kernel) c9)
  refine lv_bipush (v := (-2)) hx₀ hb dX11_behind_31 (by decide +kernel) ?_
  obtain ⟨hP9, hD9⟩ := k_c2 (wc := [(kX11 hx aLa aPa aGe aFl aTr aBe aLu aLo vSf vSm vCo vSh xs xl xf), (kX10 aTr aLa aPa aGe gL gR lf rt tgo tca tki tso tbe twe tle tan tco ten), (kX3 gL u0 u1 u2 u3), (kX3 gR v0 v1 v2 v3), (kX4 aLa vLa l4 a4 n4), (kAI vLa cI 24 f4), (kX7 aPa vPa l7 a7 n7), (kAI vPa cI 39 f7), (kX2 aGe vGe l2 a2 n2), (kAI vGe cI 23 f2), (kX1 aFl vFl xn), (kAI vFl cI 32 ff)]) hP hD [0, 1, 2, 3, 4, 5, 6, 7, 8, 9, 11, 10] (by decide +kernel) rfl
  exact W.iret (v := (-2)) hx₀ hb hr (fun t₀ ht hW => ⟨⟨(-2), (k_fn [u0, u1, u2, u3, v0, v1, v2, v3, tgo, tca, tki, tso, tbe, twe, tle, tan, tco, ten], k_fa [], k_fl [], k_fL [], k_fp [lf, rt]), rfl, (if_neg (show ¬ ((0 ≤ f1 ∧ f1 < xn) ∧ (0 ≤ m1 ∧ m1 < n4) ∧ 0 ≤ w1 ∧ w1 ≤ 3) from (fun z => c_2 z.1))).symm, by rw [ht]; exact hP9, va_K.moved hW.alike hK, hD9⟩, hS.F ht⟩) hS.2.2 dX11_behind_33
theorem lf_e_flies14_1 (a0 : Int32) (a1 : Int32) (a2 : Int32) (a3 : Int32) (a4 : Int32) (a5 : Nat) (a6 : Int32) (h0 : 0 ≤ a0 ∧ a0 ≤ 24) (h1 : 0 ≤ a1 ∧ a1 ≤ a0) (h2 : 0 ≤ a2 ∧ a2 ≤ a1) (h3 : 0 ≤ a3 ∧ a3 ≤ a1) (h4 : 0 ≤ a3 ∧ a3 ≤ 24) (h5 : a4 = 0 ∨ a2 = 0 ∨ a3 ≤ 23) (h6 : 0 ≤ a2 ∧ a2 ≤ 24) (h7 : (a0.toInt - a1.toInt).toNat = a5) (h8 : ¬ a0 ≤ a1) (h9 : a4 = 0) (h10 : a6 ≤ a1) : a1 ≤ 23 := by
  first | rfl | assumption | decide | exact Or.inl rfl | (first | omega | (have hr0 := Int32.toInt_lt a0; have hs0 := Int32.le_toInt a0; have hr1 := Int32.toInt_lt a1; have hs1 := Int32.le_toInt a1; have hr2 := Int32.toInt_lt a2; have hs2 := Int32.le_toInt a2; have hr3 := Int32.toInt_lt a3; have hs3 := Int32.le_toInt a3; have hr4 := Int32.toInt_lt a4; have hs4 := Int32.le_toInt a4; have hr5 := Int32.toInt_lt a6; have hs5 := Int32.le_toInt a6; simp only [Int64.toInt_add, Int64.toInt_sub, Int32.toInt_add, Int32.toInt_sub, Int32.toInt_mul, Int64.le_iff_toInt_le, Int64.lt_iff_toInt_lt, Int32.le_iff_toInt_le, Int32.lt_iff_toInt_lt, ← Int32.toInt_inj, ← Int64.toInt_inj, Int32.toInt_toInt64, kc_0, kc_23, kc_24] at *; (first | omega | ((try simp (disch := omega) only [k_bm64] at *); (try simp (disch := omega) only [k_bm] at *); (try simp (disch := omega) only [k_bm] at *); omega) | (simp only [Int.bmod] at *; omega))))
theorem lf_e_flies14_2 (a0 : Int32) (a1 : Int32) (a2 : Int32) (a3 : Int32) (a4 : Int32) (a5 : Nat) (a6 : Int32) (h0 : 0 ≤ a0 ∧ a0 ≤ 24) (h1 : 0 ≤ a1 ∧ a1 ≤ a0) (h2 : 0 ≤ a2 ∧ a2 ≤ a1) (h3 : 0 ≤ a3 ∧ a3 ≤ a1) (h4 : 0 ≤ a3 ∧ a3 ≤ 24) (h5 : a4 = 0 ∨ a2 = 0 ∨ a3 ≤ 23) (h6 : 0 ≤ a2 ∧ a2 ≤ 24) (h7 : (a0.toInt - a1.toInt).toNat = a5) (h8 : ¬ a0 ≤ a1) (h9 : a4 = 0) (h10 : ¬ a6 ≤ a1) : a1 ≤ 23 := by
  first | rfl | assumption | decide | exact Or.inl rfl | (first | omega | (have hr0 := Int32.toInt_lt a0; have hs0 := Int32.le_toInt a0; have hr1 := Int32.toInt_lt a1; have hs1 := Int32.le_toInt a1; have hr2 := Int32.toInt_lt a2; have hs2 := Int32.le_toInt a2; have hr3 := Int32.toInt_lt a3; have hs3 := Int32.le_toInt a3; have hr4 := Int32.toInt_lt a4; have hs4 := Int32.le_toInt a4; have hr5 := Int32.toInt_lt a6; have hs5 := Int32.le_toInt a6; simp only [Int64.toInt_add, Int64.toInt_sub, Int32.toInt_add, Int32.toInt_sub, Int32.toInt_mul, Int64.le_iff_toInt_le, Int64.lt_iff_toInt_lt, Int32.le_iff_toInt_le, Int32.lt_iff_toInt_lt, ← Int32.toInt_inj, ← Int64.toInt_inj, Int32.toInt_toInt64, kc_0, kc_23, kc_24] at *; (first | omega | ((try simp (disch := omega) only [k_bm64] at *); (try simp (disch := omega) only [k_bm] at *); (try simp (disch := omega) only [k_bm] at *); omega) | (simp only [Int.bmod] at *; omega))))
set_option maxHeartbeats 4000000 in
set_option maxRecDepth 100000 in
theorem e_flies14 (l : Launch) (dC : Nat → ClassId) (dI : Nat → Nat → Nat) (cI cJ cQ : ClassId) (sz : Nat) (hm : Nat) (p1 : Int32) (le1 : Int32) (ri1 : Int32) (h1 : Int32) (fr : Int32) (th : Int32) (vFo : Nat) (vSi : Nat) (vIt : Nat) (vMo : Nat) (la : Int32) (vBy : Nat) (vTy : Nat) (mi : Int32) (vMi : Nat) (pn : Int32) (vPs : Nat) (gn : Int32) (vGs : Nat) (fn : Int32) (vFt : Nat) (le : Int32) (vTo : Nat) (kn : Int32) (fe : Int32) (en : Int32) (ca : Int32) (an : Int32) (co : Int32) (vPr : Nat) (vSt : Nat) (vFn : Nat) (sn : Int32) (vSg : Nat) (vAl : Nat) (dr : Int32) (qMi : Nat → Int32) (qPs : Nat → Int32) (qGs : Nat → Int32) (qTo : Nat → Int32) (qPr : Nat → Int32) (qSt : Nat → Int32) (qFn : Nat → Int32) (hh0 : 0 ≤ mi ∧ mi ≤ 24) (hh1 : 0 ≤ pn ∧ pn ≤ 8) (hh2 : 0 ≤ gn ∧ gn ≤ 8) (hh3 : k_bd 2 0 7 qPr) (hh4 : 0 ≤ h1 ∧ h1 ≤ 100) (hh5 : 0 ≤ th ∧ th ≤ 100) (hh6 : k_tm pn qPs) (hh7 : ca = 16777215) : Met l yX12_flies (kW yX12_flies cX12_flies 8 none) { frames := 2, cells := 0, slots := 0, locals := 51 } (kPre dC dI cI cJ cQ sz [.ref hm, .int p1, .int le1, .int ri1, .int h1, .int fr, .int th] [(kX12 hm vFo vSi vIt vMo la vBy vTy mi vMi pn vPs gn vGs fn vFt le vTo kn fe en ca an co vPr vSt vFn sn vSg vAl dr), (kAI vMi cI 24 qMi), (kAI vPs cI 32 qPs), (kAI vGs cI 16 qGs), (kAI vTo cI 96 qTo), (kAI vPr cI 2 qPr), (kAI vSt cI 2 qSt), (kAI vFn cI 2 qFn)]) (va_Qv (fun (u : kS) => (k_bd 2 0 7 (u.2.1 1)) ∧ (0 ≤ (u.1 1) ∧ (u.1 1) ≤ 24) ∧ ((u.1 2) = 0 ∨ (u.1 0) = 0 ∨ (u.1 1) ≤ 23) ∧ (0 ≤ (u.1 0) ∧ (u.1 0) ≤ 24) ∧ (k_fd ((0 ≤ p1 ∧ p1 < pn) ∧ (0 ≤ le1 ∧ le1 < gn) ∧ 0 ≤ ri1 ∧ ri1 < gn) (k_done (kM qMi) (kCt (kM qMi) (kP3 qPs p1) (kfu mi 0) 0 ((kG0 qGs le1, kG1 qGs le1, kG0 qGs le1, 0), (kG0 qGs ri1, kG1 qGs ri1, kG0 qGs ri1, 0))) le (kP0 qPs p1) (kP1 qPs p1) (5 * (kP2 qPs p1)) (fun x9 => if x9 < fr then h1 else th) mi (u.1 0) (u.1 1) (u.1 2) (u.2.1 0)) (u.1 0) (u.1 1) (u.1 2)) ∧ (k_im ((0 ≤ p1 ∧ p1 < pn) ∧ (0 ≤ le1 ∧ le1 < gn) ∧ 0 ≤ ri1 ∧ ri1 < gn) (k_dst (kM qMi) (kP3 qPs p1) ((kG0 qGs le1, kG1 qGs le1, kG0 qGs le1, 0), (kG0 qGs ri1, kG1 qGs ri1, kG0 qGs ri1, 0)) mi (u.1 0) (u.1 1) (u.2.1 0)))) (fun (u : kS) t₀ => kB dC dI cI cJ cQ (va_A [(kX12 hm vFo vSi vIt vMo la vBy vTy mi vMi pn vPs gn vGs fn vFt le vTo kn fe en ca an co vPr vSt vFn sn vSg vAl dr), (kAI vMi cI 24 qMi), (kAI vPs cI 32 qPs), (kAI vGs cI 16 qGs), (kAI vTo cI 96 qTo), (kAI vPr cI 2 qPr), (kAI vSt cI 2 qSt), (kAI vFn cI 2 qFn)] sz) [(kX12 hm vFo vSi vIt vMo la vBy vTy mi vMi pn vPs gn vGs fn vFt le vTo (u.1 0) (u.1 1) (u.1 2) ca (u.1 3) (u.1 4) vPr vSt vFn sn vSg vAl dr), (kAI vMi cI 24 qMi), (kAI vPs cI 32 qPs), (kAI vGs cI 16 qGs), (kAI vTo cI 96 (u.2.1 0)), (kAI vPr cI 2 (u.2.1 1)), (kAI vSt cI 2 (u.2.1 2)), (kAI vFn cI 2 (u.2.1 3))] t₀) (va_A [(kX12 hm vFo vSi vIt vMo la vBy vTy mi vMi pn vPs gn vGs fn vFt le vTo kn fe en ca an co vPr vSt vFn sn vSg vAl dr), (kAI vMi cI 24 qMi), (kAI vPs cI 32 qPs), (kAI vGs cI 16 qGs), (kAI vTo cI 96 qTo), (kAI vPr cI 2 qPr), (kAI vSt cI 2 qSt), (kAI vFn cI 2 qFn)] sz)) 0 0 (va_A [(kX12 hm vFo vSi vIt vMo la vBy vTy mi vMi pn vPs gn vGs fn vFt le vTo kn fe en ca an co vPr vSt vFn sn vSg vAl dr), (kAI vMi cI 24 qMi), (kAI vPs cI 32 qPs), (kAI vGs cI 16 qGs), (kAI vTo cI 96 qTo), (kAI vPr cI 2 qPr), (kAI vSt cI 2 qSt), (kAI vFn cI 2 qFn)] sz) := by
  refine Met.ofW (cc := cX12_flies) (maxL := 8) (ret := none) (by decide) rfl ?_
  intro p₀ e₀ s₀ m₀ args below meth c₀ s₁ B hml hv₀
  obtain ⟨rfl, hsz, hP, hK, hD0, hN⟩ := hv₀
  have hx₀ := B.exec
  have hb := B.bytes
  have hr := B.returns
  have hts := atoms_spec (ws := (kW yX12_flies cX12_flies 8 none)) B.pre
  have hts := fun w h => hts w (List.mem_cons_of_mem _ h)
  have hown : s₀.vm.findClass RX12 = some m₀.cls := findClass_of_methodNamed B.named
  have hlocks := B.notSynchronized
  subst hsz
  have hD := hD0.self (sz := s₀.heap.size)
  generalize hAe : va_A [(kX12 hm vFo vSi vIt vMo la vBy vTy mi vMi pn vPs gn vGs fn vFt le vTo kn fe en ca an co vPr vSt vFn sn vSg vAl dr), (kAI vMi cI 24 qMi), (kAI vPs cI 32 qPs), (kAI vGs cI 16 qGs), (kAI vTo cI 96 qTo), (kAI vPr cI 2 qPr), (kAI vSt cI 2 qSt), (kAI vFn cI 2 qFn)] s₀.heap.size = A at hD ⊢
  have hA : ∀ q : Nat, s₀.heap.size ≤ q → A q := fun q h => by rw [← hAe]; exact Or.inr h
  have hS : va_S A s₀.heap s₀.heap [] := va_S.rf
  have hP : va_P (dC, dI) vwCl [(kX12 hm vFo vSi vIt vMo la vBy vTy mi vMi pn vPs gn vGs fn vFt le vTo kn fe en ca an co vPr vSt vFn sn vSg vAl dr), (kAI vMi cI 24 qMi), (kAI vPs cI 32 qPs), (kAI vGs cI 16 qGs), (kAI vTo cI 96 qTo), (kAI vPr cI 2 qPr), (kAI vSt cI 2 qSt), (kAI vFn cI 2 qFn)] s₀.heap := hP
  have hl := lv_entry ([.ref hm, .int p1, .int le1, .int ri1, .int h1, .int fr, .int th]) (n := 8) (Nat.le_of_ble_eq_true rfl)
  rw [lg_entry_eq]
  generalize (lg_sl ([.ref hm, .int p1, .int le1, .int ri1, .int h1, .int fr, .int th]) ++ List.replicate (8 - (lg_sl ([.ref hm, .int p1, .int le1, .int ri1, .int h1, .int fr, .int th])).length) Slot.unset).toArray = ls at hl ⊢
  have hl : lv_has ls 8 [(0, .ref hm), (1, .int p1), (2, .int le1), (3, .int ri1), (4, .int h1), (5, .int fr), (6, .int th)] := hl
  obtain ⟨H, hH⟩ : ∃ z : Heap, z = s₀.heap := ⟨_, rfl⟩
  rw [← hH] at hP
  have hS : va_S A s₀.heap H [] := by rw [hH]; exact hS
  refine k_heap hH ?_
  have hD : va_D A [(kX12 hm vFo vSi vIt vMo la vBy vTy mi vMi pn vPs gn vGs fn vFt le vTo kn fe en ca an co vPr vSt vFn sn vSg vAl dr), (kAI vMi cI 24 qMi), (kAI vPs cI 32 qPs), (kAI vGs cI 16 qGs), (kAI vTo cI 96 qTo), (kAI vPr cI 2 qPr), (kAI vSt cI 2 qSt), (kAI vFn cI 2 qFn)] := hD
  obtain ⟨locs, hlo⟩ : ∃ z : List Loc, z = [] := ⟨_, rfl⟩
  rw [← hlo] at hS ⊢
  clear hlo hH hAe hD0
  refine lv_aload_n hx₀ hb dX12_flies_0 rfl (lv_at hl 0 rfl) ?_
  refine lv_iconst (v := 0) hx₀ hb dX12_flies_1 (by decide +kernel) ?_
  refine va_put (D := (dC, dI)) (ci := 11) (v := .int 0) (ty := .int) (C := RX12) (T := TX12) (N := 30) hx₀ hb hts inlX12 tyX12 tyX12_ok nmX12 hown hK hP hD hS 0 rfl rfl 17 (by decide) (hts (.fieldLink RX12 190 "BittenStickModel" "known" "I") wd_541) (fun _ h9 => h9) rfl (by decide +kernel) rfl rfl (Nat.le_of_ble_eq_true rfl) dX12_flies_2 ?_
  clear hP hD hS
  intro H locs hP hD hS
  replace hP := k_w2 (wt := [(kX12 hm vFo vSi vIt vMo la vBy vTy mi vMi pn vPs gn vGs fn vFt le vTo 0 fe en ca an co vPr vSt vFn sn vSg vAl dr), (kAI vMi cI 24 qMi), (kAI vPs cI 32 qPs), (kAI vGs cI 16 qGs), (kAI vTo cI 96 qTo), (kAI vPr cI 2 qPr), (kAI vSt cI 2 qSt), (kAI vFn cI 2 qFn)]) hP hD rfl
  replace hD := hP.2
  replace hP := hP.1
  refine lv_aload_n hx₀ hb dX12_flies_5 rfl (lv_at hl 0 rfl) ?_
  refine lv_iconst (v := 0) hx₀ hb dX12_flies_6 (by decide +kernel) ?_
  refine va_put (D := (dC, dI)) (ci := 11) (v := .int 0) (ty := .int) (C := RX12) (T := TX12) (N := 30) hx₀ hb hts inlX12 tyX12 tyX12_ok nmX12 hown hK hP hD hS 0 rfl rfl 18 (by decide) (hts (.fieldLink RX12 193 "BittenStickModel" "fell" "I") wd_542) (fun _ h9 => h9) rfl (by decide +kernel) rfl rfl (Nat.le_of_ble_eq_true rfl) dX12_flies_7 ?_
  clear hP hD hS
  intro H locs hP hD hS
  replace hP := k_w2 (wt := [(kX12 hm vFo vSi vIt vMo la vBy vTy mi vMi pn vPs gn vGs fn vFt le vTo 0 0 en ca an co vPr vSt vFn sn vSg vAl dr), (kAI vMi cI 24 qMi), (kAI vPs cI 32 qPs), (kAI vGs cI 16 qGs), (kAI vTo cI 96 qTo), (kAI vPr cI 2 qPr), (kAI vSt cI 2 qSt), (kAI vFn cI 2 qFn)]) hP hD rfl
  replace hD := hP.2
  replace hP := hP.1
  refine lv_aload_n hx₀ hb dX12_flies_10 rfl (lv_at hl 0 rfl) ?_
  refine lv_iconst (v := 1) hx₀ hb dX12_flies_11 (by decide +kernel) ?_
  refine va_put (D := (dC, dI)) (ci := 11) (v := .int 1) (ty := .int) (C := RX12) (T := TX12) (N := 30) hx₀ hb hts inlX12 tyX12 tyX12_ok nmX12 hown hK hP hD hS 0 rfl rfl 19 (by decide) (hts (.fieldLink RX12 196 "BittenStickModel" "end" "I") wd_543) (fun _ h9 => h9) rfl (by decide +kernel) rfl rfl (Nat.le_of_ble_eq_true rfl) dX12_flies_12 ?_
  clear hP hD hS
  intro H locs hP hD hS
  replace hP := k_w2 (wt := [(kX12 hm vFo vSi vIt vMo la vBy vTy mi vMi pn vPs gn vGs fn vFt le vTo 0 0 1 ca an co vPr vSt vFn sn vSg vAl dr), (kAI vMi cI 24 qMi), (kAI vPs cI 32 qPs), (kAI vGs cI 16 qGs), (kAI vTo cI 96 qTo), (kAI vPr cI 2 qPr), (kAI vSt cI 2 qSt), (kAI vFn cI 2 qFn)]) hP hD rfl
  replace hD := hP.2
  replace hP := hP.1
  refine lv_aload_n hx₀ hb dX12_flies_15 rfl (lv_at hl 0 rfl) ?_
  refine lv_iload_n hx₀ hb dX12_flies_16 rfl (lv_at hl 1 rfl) ?_
  obtain ⟨hPc, hDc, hFc, hC⟩ := k_cw (wc := [(kX12 hm vFo vSi vIt vMo la vBy vTy mi vMi pn vPs gn vGs fn vFt le vTo 0 0 1 ca an co vPr vSt vFn sn vSg vAl dr)]) hP hD hS hA [0] (by decide +kernel) rfl
  refine va_calli (va_runV (As := [.int p1]) (rest := []) ⟨hx₀, hb, hml, hown, hts⟩ (g_isPassenger l dC dI cI cJ cQ H.size hm p1 vFo vSi vIt vMo la vBy vTy mi vMi pn vPs gn vGs fn vFt le vTo 0 0 1 ca an co vPr vSt vFn sn vSg vAl dr (hh1)) (cwV 1 hts (kGV wd_323 wd_320 wd_321 wd_322 wd_5) rfl rfl rfl (by decide +kernel) ⟨Nat.le_of_ble_eq_true rfl, Nat.le_of_ble_eq_true rfl⟩) (k_preV11 (q0 := 0) hK hPc hDc hN rfl) rfl rfl hl.1 rfl (lv_room (Nat.le_of_ble_eq_true rfl)) dX12_flies_17 ⟨by decide +kernel, by decide +kernel⟩) hS (fun q _ h => hFc q h) hFc (fun r_1 u₀ t₀ H1 locs ht hvm hw hB hz1 hk1 hS => ?_)
  obtain ⟨hP1, hK1, hD1⟩ := hB
  rw [ht] at hP1
  have hJ := k_jn (wr := [(kAI vMi cI 24 qMi), (kAI vPs cI 32 qPs), (kAI vGs cI 16 qGs), (kAI vTo cI 96 qTo), (kAI vPr cI 2 qPr), (kAI vSt cI 2 qSt), (kAI vFn cI 2 qFn)]) (wt := [(kAI vMi cI 24 qMi), (kAI vPs cI 32 qPs), (kAI vGs cI 16 qGs), (kAI vTo cI 96 qTo), (kAI vPr cI 2 qPr), (kAI vSt cI 2 qSt), (kAI vFn cI 2 qFn), (kX12 hm vFo vSi vIt vMo la vBy vTy mi vMi pn vPs gn vGs fn vFt le vTo 0 0 1 ca an co vPr vSt vFn sn vSg vAl dr)]) hP hD hC [1, 2, 3, 4, 5, 6, 7] rfl (by decide +kernel) (by decide +kernel) hk1 hFc hP1 hD1 rfl
  clear hP hD hPc hDc hFc hC hP1 hD1 hK1 hz1 hk1 hvm ht
  obtain ⟨hP, hD⟩ := hJ
  generalize H1 = H at hP hS ⊢
  try dsimp only at hw
  by_cases c_2 : 0 ≤ p1 ∧ p1 < pn
  · rw [if_pos c_2] at hw
    refine k_topi (v := 1) hw ?_
    refine lv_if_eq (tgt := 39) hx₀ hb dX12_flies_20 (by decide) (fun c9 => absurd c9 (by decide +kernel)) (fun _ => ?_)
    refine lv_aload_n hx₀ hb dX12_flies_23 rfl (lv_at hl 0 rfl) ?_
    refine lv_iload_n hx₀ hb dX12_flies_24 rfl (lv_at hl 2 rfl) ?_
    obtain ⟨hPc, hDc, hFc, hC⟩ := k_cw (wc := [(kX12 hm vFo vSi vIt vMo la vBy vTy mi vMi pn vPs gn vGs fn vFt le vTo 0 0 1 ca an co vPr vSt vFn sn vSg vAl dr)]) hP hD hS hA [7] (by decide +kernel) rfl
    refine va_calli (va_runV (As := [.int le1]) (rest := []) ⟨hx₀, hb, hml, hown, hts⟩ (g_isGoose l dC dI cI cJ cQ H.size hm le1 vFo vSi vIt vMo la vBy vTy mi vMi pn vPs gn vGs fn vFt le vTo 0 0 1 ca an co vPr vSt vFn sn vSg vAl dr (hh2)) (cwV 1 hts (kGV wd_345 wd_342 wd_343 wd_344 wd_5) rfl rfl rfl (by decide +kernel) ⟨Nat.le_of_ble_eq_true rfl, Nat.le_of_ble_eq_true rfl⟩) (k_preV11 (q0 := 0) hK hPc hDc hN rfl) rfl rfl hl.1 rfl (lv_room (Nat.le_of_ble_eq_true rfl)) dX12_flies_25 ⟨by decide +kernel, by decide +kernel⟩) hS (fun q _ h => hFc q h) hFc (fun r_3 u₀ t₀ H1 locs ht hvm hw hB hz1 hk1 hS => ?_)
    obtain ⟨hP1, hK1, hD1⟩ := hB
    rw [ht] at hP1
    have hJ := k_jn (wr := [(kAI vMi cI 24 qMi), (kAI vPs cI 32 qPs), (kAI vGs cI 16 qGs), (kAI vTo cI 96 qTo), (kAI vPr cI 2 qPr), (kAI vSt cI 2 qSt), (kAI vFn cI 2 qFn)]) (wt := [(kAI vMi cI 24 qMi), (kAI vPs cI 32 qPs), (kAI vGs cI 16 qGs), (kAI vTo cI 96 qTo), (kAI vPr cI 2 qPr), (kAI vSt cI 2 qSt), (kAI vFn cI 2 qFn), (kX12 hm vFo vSi vIt vMo la vBy vTy mi vMi pn vPs gn vGs fn vFt le vTo 0 0 1 ca an co vPr vSt vFn sn vSg vAl dr)]) hP hD hC [0, 1, 2, 3, 4, 5, 6] rfl (by decide +kernel) (by decide +kernel) hk1 hFc hP1 hD1 rfl
    clear hP hD hPc hDc hFc hC hP1 hD1 hK1 hz1 hk1 hvm ht
    obtain ⟨hP, hD⟩ := hJ
    generalize H1 = H at hP hS ⊢
    try dsimp only at hw
    by_cases c_4 : 0 ≤ le1 ∧ le1 < gn
    · rw [if_pos c_4] at hw
      refine k_topi (v := 1) hw ?_
      refine lv_if_eq (tgt := 39) hx₀ hb dX12_flies_28 (by decide) (fun c9 => absurd c9 (by decide +kernel)) (fun _ => ?_)
      refine lv_aload_n hx₀ hb dX12_flies_31 rfl (lv_at hl 0 rfl) ?_
      refine lv_iload_n hx₀ hb dX12_flies_32 rfl (lv_at hl 3 rfl) ?_
      obtain ⟨hPc, hDc, hFc, hC⟩ := k_cw (wc := [(kX12 hm vFo vSi vIt vMo la vBy vTy mi vMi pn vPs gn vGs fn vFt le vTo 0 0 1 ca an co vPr vSt vFn sn vSg vAl dr)]) hP hD hS hA [7] (by decide +kernel) rfl
      refine va_calli (va_runV (As := [.int ri1]) (rest := []) ⟨hx₀, hb, hml, hown, hts⟩ (g_isGoose l dC dI cI cJ cQ H.size hm ri1 vFo vSi vIt vMo la vBy vTy mi vMi pn vPs gn vGs fn vFt le vTo 0 0 1 ca an co vPr vSt vFn sn vSg vAl dr (hh2)) (cwV 1 hts (kGV wd_345 wd_342 wd_343 wd_344 wd_5) rfl rfl rfl (by decide +kernel) ⟨Nat.le_of_ble_eq_true rfl, Nat.le_of_ble_eq_true rfl⟩) (k_preV11 (q0 := 0) hK hPc hDc hN rfl) rfl rfl hl.1 rfl (lv_room (Nat.le_of_ble_eq_true rfl)) dX12_flies_33 ⟨by decide +kernel, by decide +kernel⟩) hS (fun q _ h => hFc q h) hFc (fun r_5 u₀ t₀ H1 locs ht hvm hw hB hz1 hk1 hS => ?_)
      obtain ⟨hP1, hK1, hD1⟩ := hB
      rw [ht] at hP1
      have hJ := k_jn (wr := [(kAI vMi cI 24 qMi), (kAI vPs cI 32 qPs), (kAI vGs cI 16 qGs), (kAI vTo cI 96 qTo), (kAI vPr cI 2 qPr), (kAI vSt cI 2 qSt), (kAI vFn cI 2 qFn)]) (wt := [(kAI vMi cI 24 qMi), (kAI vPs cI 32 qPs), (kAI vGs cI 16 qGs), (kAI vTo cI 96 qTo), (kAI vPr cI 2 qPr), (kAI vSt cI 2 qSt), (kAI vFn cI 2 qFn), (kX12 hm vFo vSi vIt vMo la vBy vTy mi vMi pn vPs gn vGs fn vFt le vTo 0 0 1 ca an co vPr vSt vFn sn vSg vAl dr)]) hP hD hC [0, 1, 2, 3, 4, 5, 6] rfl (by decide +kernel) (by decide +kernel) hk1 hFc hP1 hD1 rfl
      clear hP hD hPc hDc hFc hC hP1 hD1 hK1 hz1 hk1 hvm ht
      obtain ⟨hP, hD⟩ := hJ
      generalize H1 = H at hP hS ⊢
      try dsimp only at hw
      by_cases c_6 : 0 ≤ ri1 ∧ ri1 < gn
      · rw [if_pos c_6] at hw
        refine k_topi (v := 1) hw ?_
        refine lv_if_ne (tgt := 40) hx₀ hb dX12_flies_36 (by decide) (fun _ => ?_) (fun c9 => absurd c9 (by decide +kernel))
        refine lv_aload_n hx₀ hb dX12_flies_40 rfl (lv_at hl 0 rfl) ?_
        refine va_get (D := (dC, dI)) (ci := 11) (v := .ref vPr) (C := RX12) (T := TX12) (N := 30) hx₀ hb hts inlX12 hown hK hP 7 rfl rfl 23 (by decide) (hts (.fieldLink RX12 43 "BittenStickModel" "pair" "[I") wd_126) (fun _ h9 => h9) rfl dX12_flies_41 ?_
        refine lv_iconst (v := 0) hx₀ hb dX12_flies_44 (by decide +kernel) ?_
        refine lv_iload_n hx₀ hb dX12_flies_45 rfl (lv_at hl 2 rfl) ?_
        refine va_iast hx₀ hb hK hP hD hS 4 0 rfl rfl (by unfold vp_in; decide +kernel) dX12_flies_46 ?_
        clear hP hD hS
        intro H locs hP hD hS
        replace hP := k_w2 (wt := [(kAI vMi cI 24 qMi), (kAI vPs cI 32 qPs), (kAI vGs cI 16 qGs), (kAI vTo cI 96 qTo), (kAI vPr cI 2 (upd qPr (0 : Int32).toNatClampNeg le1)), (kAI vSt cI 2 qSt), (kAI vFn cI 2 qFn), (kX12 hm vFo vSi vIt vMo la vBy vTy mi vMi pn vPs gn vGs fn vFt le vTo 0 0 1 ca an co vPr vSt vFn sn vSg vAl dr)]) hP hD rfl
        replace hD := hP.2
        replace hP := hP.1
        refine lv_aload_n hx₀ hb dX12_flies_47 rfl (lv_at hl 0 rfl) ?_
        refine va_get (D := (dC, dI)) (ci := 11) (v := .ref vPr) (C := RX12) (T := TX12) (N := 30) hx₀ hb hts inlX12 hown hK hP 7 rfl rfl 23 (by decide) (hts (.fieldLink RX12 43 "BittenStickModel" "pair" "[I") wd_126) (fun _ h9 => h9) rfl dX12_flies_48 ?_
        refine lv_iconst (v := 1) hx₀ hb dX12_flies_51 (by decide +kernel) ?_
        refine lv_iload_n hx₀ hb dX12_flies_52 rfl (lv_at hl 3 rfl) ?_
        refine va_iast hx₀ hb hK hP hD hS 4 0 rfl rfl (by unfold vp_in; decide +kernel) dX12_flies_53 ?_
        clear hP hD hS
        intro H locs hP hD hS
        replace hP := k_w2 (wt := [(kAI vMi cI 24 qMi), (kAI vPs cI 32 qPs), (kAI vGs cI 16 qGs), (kAI vTo cI 96 qTo), (kAI vPr cI 2 (upd (upd qPr (0 : Int32).toNatClampNeg le1) (1 : Int32).toNatClampNeg ri1)), (kAI vSt cI 2 qSt), (kAI vFn cI 2 qFn), (kX12 hm vFo vSi vIt vMo la vBy vTy mi vMi pn vPs gn vGs fn vFt le vTo 0 0 1 ca an co vPr vSt vFn sn vSg vAl dr)]) hP hD rfl
        replace hD := hP.2
        replace hP := hP.1
        refine lv_iconst (v := 0) hx₀ hb dX12_flies_54 (by decide +kernel) ?_
        refine lv_istore (lv' := [(7, .int 0), (0, .ref hm), (1, .int p1), (2, .int le1), (3, .int ri1), (4, .int h1), (5, .int fr), (6, .int th)]) hx₀ hb dX12_flies_55 hl (by decide) rfl (fun ls hl => ?_)
        refine lv_iload hx₀ hb dX12_flies_57 (lv_at hl 0 rfl) ?_
        refine lv_iconst (v := 2) hx₀ hb dX12_flies_59 (by decide +kernel) ?_
        refine lv_icmp_ge (tgt := 98) hx₀ hb dX12_flies_60 (by decide) (fun c9 => absurd c9 (by decide +kernel)) (fun _ => ?_)
        refine lv_aload_n hx₀ hb dX12_flies_63 rfl (lv_at hl 1 rfl) ?_
        refine va_get (D := (dC, dI)) (ci := 11) (v := .ref vSt) (C := RX12) (T := TX12) (N := 30) hx₀ hb hts inlX12 hown hK hP 7 rfl rfl 24 (by decide) (hts (.fieldLink RX12 46 "BittenStickModel" "strong" "[I") wd_127) (fun _ h9 => h9) rfl dX12_flies_64 ?_
        refine lv_iload hx₀ hb dX12_flies_67 (lv_at hl 0 rfl) ?_
        refine lv_aload_n hx₀ hb dX12_flies_69 rfl (lv_at hl 1 rfl) ?_
        refine va_get (D := (dC, dI)) (ci := 11) (v := .ref vGs) (C := RX12) (T := TX12) (N := 30) hx₀ hb hts inlX12 hown hK hP 7 rfl rfl 12 (by decide) (hts (.fieldLink RX12 34 "BittenStickModel" "goose" "[I") wd_123) (fun _ h9 => h9) rfl dX12_flies_70 ?_
        refine lv_iconst (v := 2) hx₀ hb dX12_flies_73 (by decide +kernel) ?_
        refine lv_aload_n hx₀ hb dX12_flies_74 rfl (lv_at hl 1 rfl) ?_
        refine va_get (D := (dC, dI)) (ci := 11) (v := .ref vPr) (C := RX12) (T := TX12) (N := 30) hx₀ hb hts inlX12 hown hK hP 7 rfl rfl 23 (by decide) (hts (.fieldLink RX12 43 "BittenStickModel" "pair" "[I") wd_126) (fun _ h9 => h9) rfl dX12_flies_75 ?_
        refine lv_iload hx₀ hb dX12_flies_78 (lv_at hl 0 rfl) ?_
        refine va_iald hx₀ hb hK hP 4 0 rfl rfl (by unfold vp_in; decide +kernel) dX12_flies_80 ?_
        refine k_topi (v := le1) rfl ?_
        refine lv_imul hx₀ hb dX12_flies_81 ?_
        refine va_iald hx₀ hb hK hP 2 0 rfl rfl (vp_in_iff.mpr (lf_e_flies_1 gn le1 ri1 hh2 c_4 c_6)) dX12_flies_82 ?_
        refine k_topi (v := kG0 qGs le1) rfl ?_
        refine va_iast hx₀ hb hK hP hD hS 5 0 rfl rfl (by unfold vp_in; decide +kernel) dX12_flies_83 ?_
        clear hP hD hS
        intro H locs hP hD hS
        replace hP := k_w2 (wt := [(kAI vMi cI 24 qMi), (kAI vPs cI 32 qPs), (kAI vGs cI 16 qGs), (kAI vTo cI 96 qTo), (kAI vPr cI 2 (upd (upd qPr (0 : Int32).toNatClampNeg le1) (1 : Int32).toNatClampNeg ri1)), (kAI vSt cI 2 (upd qSt (0 : Int32).toNatClampNeg (kG0 qGs le1))), (kAI vFn cI 2 qFn), (kX12 hm vFo vSi vIt vMo la vBy vTy mi vMi pn vPs gn vGs fn vFt le vTo 0 0 1 ca an co vPr vSt vFn sn vSg vAl dr)]) hP hD rfl
        replace hD := hP.2
        replace hP := hP.1
        refine lv_aload_n hx₀ hb dX12_flies_84 rfl (lv_at hl 1 rfl) ?_
        refine va_get (D := (dC, dI)) (ci := 11) (v := .ref vFn) (C := RX12) (T := TX12) (N := 30) hx₀ hb hts inlX12 hown hK hP 7 rfl rfl 25 (by decide) (hts (.fieldLink RX12 49 "BittenStickModel" "flown" "[I") wd_128) (fun _ h9 => h9) rfl dX12_flies_85 ?_
        refine lv_iload hx₀ hb dX12_flies_88 (lv_at hl 0 rfl) ?_
        refine lv_iconst (v := 0) hx₀ hb dX12_flies_90 (by decide +kernel) ?_
        refine va_iast hx₀ hb hK hP hD hS 6 0 rfl rfl (by unfold vp_in; decide +kernel) dX12_flies_91 ?_
        clear hP hD hS
        intro H locs hP hD hS
        replace hP := k_w2 (wt := [(kAI vMi cI 24 qMi), (kAI vPs cI 32 qPs), (kAI vGs cI 16 qGs), (kAI vTo cI 96 qTo), (kAI vPr cI 2 (upd (upd qPr (0 : Int32).toNatClampNeg le1) (1 : Int32).toNatClampNeg ri1)), (kAI vSt cI 2 (upd qSt (0 : Int32).toNatClampNeg (kG0 qGs le1))), (kAI vFn cI 2 (upd qFn (0 : Int32).toNatClampNeg 0)), (kX12 hm vFo vSi vIt vMo la vBy vTy mi vMi pn vPs gn vGs fn vFt le vTo 0 0 1 ca an co vPr vSt vFn sn vSg vAl dr)]) hP hD rfl
        replace hD := hP.2
        replace hP := hP.1
        refine lv_iinc (v := 1) (lv' := [(7, .int 1), (0, .ref hm), (1, .int p1), (2, .int le1), (3, .int ri1), (4, .int h1), (5, .int fr), (6, .int th)]) hx₀ hb dX12_flies_92 hl (k := 0) rfl (by decide +kernel) (by decide) rfl (fun ls hl => ?_)
        refine lv_goto (tgt := 57) hx₀ hb dX12_flies_95 (by decide) ?_
        refine lv_iload hx₀ hb dX12_flies_57 (lv_at hl 0 rfl) ?_
        refine lv_iconst (v := 2) hx₀ hb dX12_flies_59 (by decide +kernel) ?_
        refine lv_icmp_ge (tgt := 98) hx₀ hb dX12_flies_60 (by decide) (fun c9 => absurd c9 (by decide +kernel)) (fun _ => ?_)
        refine lv_aload_n hx₀ hb dX12_flies_63 rfl (lv_at hl 1 rfl) ?_
        refine va_get (D := (dC, dI)) (ci := 11) (v := .ref vSt) (C := RX12) (T := TX12) (N := 30) hx₀ hb hts inlX12 hown hK hP 7 rfl rfl 24 (by decide) (hts (.fieldLink RX12 46 "BittenStickModel" "strong" "[I") wd_127) (fun _ h9 => h9) rfl dX12_flies_64 ?_
        refine lv_iload hx₀ hb dX12_flies_67 (lv_at hl 0 rfl) ?_
        refine lv_aload_n hx₀ hb dX12_flies_69 rfl (lv_at hl 1 rfl) ?_
        refine va_get (D := (dC, dI)) (ci := 11) (v := .ref vGs) (C := RX12) (T := TX12) (N := 30) hx₀ hb hts inlX12 hown hK hP 7 rfl rfl 12 (by decide) (hts (.fieldLink RX12 34 "BittenStickModel" "goose" "[I") wd_123) (fun _ h9 => h9) rfl dX12_flies_70 ?_
        refine lv_iconst (v := 2) hx₀ hb dX12_flies_73 (by decide +kernel) ?_
        refine lv_aload_n hx₀ hb dX12_flies_74 rfl (lv_at hl 1 rfl) ?_
        refine va_get (D := (dC, dI)) (ci := 11) (v := .ref vPr) (C := RX12) (T := TX12) (N := 30) hx₀ hb hts inlX12 hown hK hP 7 rfl rfl 23 (by decide) (hts (.fieldLink RX12 43 "BittenStickModel" "pair" "[I") wd_126) (fun _ h9 => h9) rfl dX12_flies_75 ?_
        refine lv_iload hx₀ hb dX12_flies_78 (lv_at hl 0 rfl) ?_
        refine va_iald hx₀ hb hK hP 4 0 rfl rfl (by unfold vp_in; decide +kernel) dX12_flies_80 ?_
        refine k_topi (v := ri1) rfl ?_
        refine lv_imul hx₀ hb dX12_flies_81 ?_
        refine va_iald hx₀ hb hK hP 2 0 rfl rfl (vp_in_iff.mpr (lf_e_flies_2 gn le1 ri1 hh2 c_4 c_6)) dX12_flies_82 ?_
        refine k_topi (v := kG0 qGs ri1) rfl ?_
        refine va_iast hx₀ hb hK hP hD hS 5 0 rfl rfl (by unfold vp_in; decide +kernel) dX12_flies_83 ?_
        clear hP hD hS
        intro H locs hP hD hS
        replace hP := k_w2 (wt := [(kAI vMi cI 24 qMi), (kAI vPs cI 32 qPs), (kAI vGs cI 16 qGs), (kAI vTo cI 96 qTo), (kAI vPr cI 2 (upd (upd qPr (0 : Int32).toNatClampNeg le1) (1 : Int32).toNatClampNeg ri1)), (kAI vSt cI 2 (upd (upd qSt (0 : Int32).toNatClampNeg (kG0 qGs le1)) (1 : Int32).toNatClampNeg (kG0 qGs ri1))), (kAI vFn cI 2 (upd qFn (0 : Int32).toNatClampNeg 0)), (kX12 hm vFo vSi vIt vMo la vBy vTy mi vMi pn vPs gn vGs fn vFt le vTo 0 0 1 ca an co vPr vSt vFn sn vSg vAl dr)]) hP hD rfl
        replace hD := hP.2
        replace hP := hP.1
        refine lv_aload_n hx₀ hb dX12_flies_84 rfl (lv_at hl 1 rfl) ?_
        refine va_get (D := (dC, dI)) (ci := 11) (v := .ref vFn) (C := RX12) (T := TX12) (N := 30) hx₀ hb hts inlX12 hown hK hP 7 rfl rfl 25 (by decide) (hts (.fieldLink RX12 49 "BittenStickModel" "flown" "[I") wd_128) (fun _ h9 => h9) rfl dX12_flies_85 ?_
        refine lv_iload hx₀ hb dX12_flies_88 (lv_at hl 0 rfl) ?_
        refine lv_iconst (v := 0) hx₀ hb dX12_flies_90 (by decide +kernel) ?_
        refine va_iast hx₀ hb hK hP hD hS 6 0 rfl rfl (by unfold vp_in; decide +kernel) dX12_flies_91 ?_
        clear hP hD hS
        intro H locs hP hD hS
        replace hP := k_w2 (wt := [(kAI vMi cI 24 qMi), (kAI vPs cI 32 qPs), (kAI vGs cI 16 qGs), (kAI vTo cI 96 qTo), (kAI vPr cI 2 (upd (upd qPr (0 : Int32).toNatClampNeg le1) (1 : Int32).toNatClampNeg ri1)), (kAI vSt cI 2 (upd (upd qSt (0 : Int32).toNatClampNeg (kG0 qGs le1)) (1 : Int32).toNatClampNeg (kG0 qGs ri1))), (kAI vFn cI 2 (upd (upd qFn (0 : Int32).toNatClampNeg 0) (1 : Int32).toNatClampNeg 0)), (kX12 hm vFo vSi vIt vMo la vBy vTy mi vMi pn vPs gn vGs fn vFt le vTo 0 0 1 ca an co vPr vSt vFn sn vSg vAl dr)]) hP hD rfl
        replace hD := hP.2
        replace hP := hP.1
        refine lv_iinc (v := 2) (lv' := [(7, .int 2), (0, .ref hm), (1, .int p1), (2, .int le1), (3, .int ri1), (4, .int h1), (5, .int fr), (6, .int th)]) hx₀ hb dX12_flies_92 hl (k := 0) rfl (by decide +kernel) (by decide) rfl (fun ls hl => ?_)
        refine lv_goto (tgt := 57) hx₀ hb dX12_flies_95 (by decide) ?_
        refine lv_iload hx₀ hb dX12_flies_57 (lv_at hl 0 rfl) ?_
        refine lv_iconst (v := 2) hx₀ hb dX12_flies_59 (by decide +kernel) ?_
        refine lv_icmp_ge (tgt := 98) hx₀ hb dX12_flies_60 (by decide) (fun _ => ?_) (fun c9 => absurd (by decide +kernel) c9)
        refine lv_aload_n hx₀ hb dX12_flies_98 rfl (lv_at hl 1 rfl) ?_
        refine lv_iconst (v := 0) hx₀ hb dX12_flies_99 (by decide +kernel) ?_
        refine va_put (D := (dC, dI)) (ci := 11) (v := .int 0) (ty := .int) (C := RX12) (T := TX12) (N := 30) hx₀ hb hts inlX12 tyX12 tyX12_ok nmX12 hown hK hP hD hS 7 rfl rfl 21 (by decide) (hts (.fieldLink RX12 184 "BittenStickModel" "anger" "I") wd_544) (fun _ h9 => h9) rfl (by decide +kernel) rfl rfl (Nat.le_of_ble_eq_true rfl) dX12_flies_100 ?_
        clear hP hD hS
        intro H locs hP hD hS
        replace hP := k_w2 (wt := [(kAI vMi cI 24 qMi), (kAI vPs cI 32 qPs), (kAI vGs cI 16 qGs), (kAI vTo cI 96 qTo), (kAI vPr cI 2 (upd (upd qPr (0 : Int32).toNatClampNeg le1) (1 : Int32).toNatClampNeg ri1)), (kAI vSt cI 2 (upd (upd qSt (0 : Int32).toNatClampNeg (kG0 qGs le1)) (1 : Int32).toNatClampNeg (kG0 qGs ri1))), (kAI vFn cI 2 (upd (upd qFn (0 : Int32).toNatClampNeg 0) (1 : Int32).toNatClampNeg 0)), (kX12 hm vFo vSi vIt vMo la vBy vTy mi vMi pn vPs gn vGs fn vFt le vTo 0 0 1 ca 0 co vPr vSt vFn sn vSg vAl dr)]) hP hD rfl
        replace hD := hP.2
        replace hP := hP.1
        refine lv_aload_n hx₀ hb dX12_flies_103 rfl (lv_at hl 1 rfl) ?_
        refine lv_iconst (v := 0) hx₀ hb dX12_flies_104 (by decide +kernel) ?_
        refine va_put (D := (dC, dI)) (ci := 11) (v := .int 0) (ty := .int) (C := RX12) (T := TX12) (N := 30) hx₀ hb hts inlX12 tyX12 tyX12_ok nmX12 hown hK hP hD hS 7 rfl rfl 22 (by decide) (hts (.fieldLink RX12 177 "BittenStickModel" "cold" "I") wd_545) (fun _ h9 => h9) rfl (by decide +kernel) rfl rfl (Nat.le_of_ble_eq_true rfl) dX12_flies_105 ?_
        clear hP hD hS
        intro H locs hP hD hS
        replace hP := k_w2 (wt := [(kAI vMi cI 24 qMi), (kAI vPs cI 32 qPs), (kAI vGs cI 16 qGs), (kAI vTo cI 96 qTo), (kAI vPr cI 2 (upd (upd qPr (0 : Int32).toNatClampNeg le1) (1 : Int32).toNatClampNeg ri1)), (kAI vSt cI 2 (upd (upd qSt (0 : Int32).toNatClampNeg (kG0 qGs le1)) (1 : Int32).toNatClampNeg (kG0 qGs ri1))), (kAI vFn cI 2 (upd (upd qFn (0 : Int32).toNatClampNeg 0) (1 : Int32).toNatClampNeg 0)), (kX12 hm vFo vSi vIt vMo la vBy vTy mi vMi pn vPs gn vGs fn vFt le vTo 0 0 1 ca 0 0 vPr vSt vFn sn vSg vAl dr)]) hP hD rfl
        replace hD := hP.2
        replace hP := hP.1
        refine lv_aload_n hx₀ hb dX12_flies_108 rfl (lv_at hl 1 rfl) ?_
        refine lv_iconst (v := 0) hx₀ hb dX12_flies_109 (by decide +kernel) ?_
        refine va_put (D := (dC, dI)) (ci := 11) (v := .int 0) (ty := .int) (C := RX12) (T := TX12) (N := 30) hx₀ hb hts inlX12 tyX12 tyX12_ok nmX12 hown hK hP hD hS 7 rfl rfl 19 (by decide) (hts (.fieldLink RX12 196 "BittenStickModel" "end" "I") wd_543) (fun _ h9 => h9) rfl (by decide +kernel) rfl rfl (Nat.le_of_ble_eq_true rfl) dX12_flies_110 ?_
        clear hP hD hS
        intro H locs hP hD hS
        replace hP := k_w2 (wt := [(kAI vMi cI 24 qMi), (kAI vPs cI 32 qPs), (kAI vGs cI 16 qGs), (kAI vTo cI 96 qTo), (kAI vPr cI 2 (upd (upd qPr (0 : Int32).toNatClampNeg le1) (1 : Int32).toNatClampNeg ri1)), (kAI vSt cI 2 (upd (upd qSt (0 : Int32).toNatClampNeg (kG0 qGs le1)) (1 : Int32).toNatClampNeg (kG0 qGs ri1))), (kAI vFn cI 2 (upd (upd qFn (0 : Int32).toNatClampNeg 0) (1 : Int32).toNatClampNeg 0)), (kX12 hm vFo vSi vIt vMo la vBy vTy mi vMi pn vPs gn vGs fn vFt le vTo 0 0 0 ca 0 0 vPr vSt vFn sn vSg vAl dr)]) hP hD rfl
        replace hD := hP.2
        replace hP := hP.1
        refine lv_iconst (v := 0) hx₀ hb dX12_flies_113 (by decide +kernel) ?_
        refine lv_istore (lv' := [(7, .int 0), (0, .ref hm), (1, .int p1), (2, .int le1), (3, .int ri1), (4, .int h1), (5, .int fr), (6, .int th)]) hx₀ hb dX12_flies_114 hl (by decide) rfl (fun ls hl => ?_)
        refine (?keyz7 : ∀ (jz7 : Nat) (mz7 : Int32) (knz7 : Int32) (fez7 : Int32) (enz7 : Int32) (anz7 : Int32) (coz7 : Int32) (qtz7 : Nat → Int32) (qpz7 : Nat → Int32) (qsz7 : Nat → Int32) (qfz7 : Nat → Int32) (H : Heap) (locs : List Loc) (ls : Array Slot), (0 ≤ mz7 ∧ mz7 ≤ mi) → (0 ≤ knz7 ∧ knz7 ≤ mz7) → (0 ≤ fez7 ∧ fez7 ≤ mz7) → (k_fr (kM qMi) (kP3 qPs p1) mi le (kP0 qPs p1) (kP1 qPs p1) (5 * (kP2 qPs p1)) (fun x9 => if x9 < fr then h1 else th) (kCt (kM qMi) (kP3 qPs p1) (kfu mi 0) 0 ((kG0 qGs le1, kG1 qGs le1, kG0 qGs le1, 0), (kG0 qGs ri1, kG1 qGs ri1, kG0 qGs ri1, 0))) mz7 knz7 fez7 enz7 anz7 coz7 qtz7 (kPS qGs qpz7 qsz7 qfz7)) → (k_fs (kM qMi) (kP3 qPs p1) ((kG0 qGs le1, kG1 qGs le1, kG0 qGs le1, 0), (kG0 qGs ri1, kG1 qGs ri1, kG0 qGs ri1, 0)) mz7 fez7 enz7 (kPS qGs qpz7 qsz7 qfz7) qtz7) → (k_bd 2 0 7 qpz7) → (0 ≤ fez7 ∧ fez7 ≤ 24) → (enz7 = 0 ∨ knz7 = 0 ∨ fez7 ≤ 23) → (0 ≤ knz7 ∧ knz7 ≤ 24) → ((mi.toInt - mz7.toInt).toNat = jz7) → va_P (dC, dI) vwCl [(kAI vMi cI 24 qMi), (kAI vPs cI 32 qPs), (kAI vGs cI 16 qGs), (kAI vTo cI 96 qtz7), (kAI vPr cI 2 qpz7), (kAI vSt cI 2 qsz7), (kAI vFn cI 2 qfz7), (kX12 hm vFo vSi vIt vMo la vBy vTy mi vMi pn vPs gn vGs fn vFt le vTo knz7 fez7 enz7 ca anz7 coz7 vPr vSt vFn sn vSg vAl dr)] H → va_D A [(kAI vMi cI 24 qMi), (kAI vPs cI 32 qPs), (kAI vGs cI 16 qGs), (kAI vTo cI 96 qtz7), (kAI vPr cI 2 qpz7), (kAI vSt cI 2 qsz7), (kAI vFn cI 2 qfz7), (kX12 hm vFo vSi vIt vMo la vBy vTy mi vMi pn vPs gn vGs fn vFt le vTo knz7 fez7 enz7 ca anz7 coz7 vPr vSt vFn sn vSg vAl dr)] → va_S A s₀.heap H locs → lv_has ls 8 [(7, .int mz7), (0, .ref hm), (1, .int p1), (2, .int le1), (3, .int ri1), (4, .int h1), (5, .int fr), (6, .int th)] → W p₀ l e₀ _ s₀ m₀ _ below meth c₀ H locs _ _ _ (F0 m₀ 116 ls [])) _ (0 : Int32) (0 : Int32) (0 : Int32) (0 : Int32) (0 : Int32) (0 : Int32) _ _ _ _ H locs ls (show 0 ≤ (0 : Int32) ∧ (0 : Int32) ≤ mi from ⟨(by decide), hh0.1⟩) (show 0 ≤ (0 : Int32) ∧ (0 : Int32) ≤ (0 : Int32) from ⟨(by decide), (by decide)⟩) (show 0 ≤ (0 : Int32) ∧ (0 : Int32) ≤ (0 : Int32) from ⟨(by decide), (by decide)⟩) (k_fr_0 (hh6 p1 (c_2)) (congrArg (kCt (kM qMi) (kP3 qPs p1) (kfu mi 0) 0) k_ps0)) (k_fs_0 rfl) (k_bd2 (lf_g_flies_1 gn le1 ri1 hh2 c_4 c_6) (lf_g_flies_2 gn le1 ri1 hh2 c_4 c_6)) (show 0 ≤ (0 : Int32) ∧ (0 : Int32) ≤ 24 from ⟨(by decide), (by decide)⟩) (show (0 : Int32) = 0 ∨ (0 : Int32) = 0 ∨ (0 : Int32) ≤ 23 from (Or.inl (rfl))) (show 0 ≤ (0 : Int32) ∧ (0 : Int32) ≤ 24 from ⟨(by decide), (by decide)⟩) rfl hP hD hS hl
        clear hP hD hS hl
        intro jz7
        induction jz7 using Nat.strongRecOn with
        | ind jz7 ihz7 =>
          intro mz7 knz7 fez7 enz7 anz7 coz7 qtz7 qpz7 qsz7 qfz7 H locs ls hiz7_0 hiz7_1 hiz7_2 hiz7_3 hiz7_4 hiz7_5 hiz7_6 hiz7_7 hiz7_8 hjz7 hP hD hS hl
          refine lv_iload hx₀ hb dX12_flies_116 (lv_at hl 0 rfl) ?_
          refine lv_aload_n hx₀ hb dX12_flies_118 rfl (lv_at hl 1 rfl) ?_
          refine va_get (D := (dC, dI)) (ci := 11) (v := .int mi) (C := RX12) (T := TX12) (N := 30) hx₀ hb hts inlX12 hown hK hP 7 rfl rfl 7 (by decide) (hts (.fieldLink RX12 107 "BittenStickModel" "miles" "I") wd_252) (fun _ h9 => h9) rfl dX12_flies_119 ?_
          refine lv_icmp_ge (tgt := 255) hx₀ hb dX12_flies_122 (by decide) (fun c_8 => ?_) (fun c_8 => ?_)
          · obtain ⟨hP9, hD9⟩ := k_c2 (wc := [(kX12 hm vFo vSi vIt vMo la vBy vTy mi vMi pn vPs gn vGs fn vFt le vTo knz7 fez7 enz7 ca anz7 coz7 vPr vSt vFn sn vSg vAl dr), (kAI vMi cI 24 qMi), (kAI vPs cI 32 qPs), (kAI vGs cI 16 qGs), (kAI vTo cI 96 qtz7), (kAI vPr cI 2 qpz7), (kAI vSt cI 2 qsz7), (kAI vFn cI 2 qfz7)]) hP hD [7, 0, 1, 2, 3, 4, 5, 6] (by decide +kernel) rfl
            exact W.vret hx₀ hb hr (fun t₀ ht hW => ⟨⟨(k_fn [knz7, fez7, enz7, anz7, coz7], k_fa [qtz7, qpz7, qsz7, qfz7], k_fl [], k_fL [], k_fp []), rfl, ⟨hiz7_5, hiz7_6, hiz7_7, hiz7_8, (k_fd_y (show (0 ≤ p1 ∧ p1 < pn) ∧ (0 ≤ le1 ∧ le1 < gn) ∧ 0 ≤ ri1 ∧ ri1 < gn from ⟨⟨c_2.1, c_2.2⟩, ⟨c_4.1, c_4.2⟩, c_6.1, c_6.2⟩) (k_fr_end hiz7_3 (hiz7_0.2) (hh0.2) (Or.inl c_8))), ((fun _ => k_fs_end hiz7_3 hiz7_4 (hiz7_0.2) (hh0.2) (Or.inl c_8)))⟩, by rw [ht]; exact hP9, va_K.moved hW.alike hK, hD9⟩, hS.F ht⟩) hS.2.2 dX12_flies_255
          · refine lv_aload_n hx₀ hb dX12_flies_125 rfl (lv_at hl 1 rfl) ?_
            refine va_get (D := (dC, dI)) (ci := 11) (v := .int enz7) (C := RX12) (T := TX12) (N := 30) hx₀ hb hts inlX12 hown hK hP 7 rfl rfl 19 (by decide) (hts (.fieldLink RX12 196 "BittenStickModel" "end" "I") wd_543) (fun _ h9 => h9) rfl dX12_flies_126 ?_
            refine lv_if_ne (tgt := 255) hx₀ hb dX12_flies_129 (by decide) (fun c_9 => ?_) (fun c_9 => ?_)
            · obtain ⟨hP9, hD9⟩ := k_c2 (wc := [(kX12 hm vFo vSi vIt vMo la vBy vTy mi vMi pn vPs gn vGs fn vFt le vTo knz7 fez7 enz7 ca anz7 coz7 vPr vSt vFn sn vSg vAl dr), (kAI vMi cI 24 qMi), (kAI vPs cI 32 qPs), (kAI vGs cI 16 qGs), (kAI vTo cI 96 qtz7), (kAI vPr cI 2 qpz7), (kAI vSt cI 2 qsz7), (kAI vFn cI 2 qfz7)]) hP hD [7, 0, 1, 2, 3, 4, 5, 6] (by decide +kernel) rfl
              exact W.vret hx₀ hb hr (fun t₀ ht hW => ⟨⟨(k_fn [knz7, fez7, enz7, anz7, coz7], k_fa [qtz7, qpz7, qsz7, qfz7], k_fl [], k_fL [], k_fp []), rfl, ⟨hiz7_5, hiz7_6, hiz7_7, hiz7_8, (k_fd_y (show (0 ≤ p1 ∧ p1 < pn) ∧ (0 ≤ le1 ∧ le1 < gn) ∧ 0 ≤ ri1 ∧ ri1 < gn from ⟨⟨c_2.1, c_2.2⟩, ⟨c_4.1, c_4.2⟩, c_6.1, c_6.2⟩) (k_fr_end hiz7_3 (hiz7_0.2) (hh0.2) (Or.inr c_9))), ((fun _ => k_fs_end hiz7_3 hiz7_4 (hiz7_0.2) (hh0.2) (Or.inr c_9)))⟩, by rw [ht]; exact hP9, va_K.moved hW.alike hK, hD9⟩, hS.F ht⟩) hS.2.2 dX12_flies_255
            · refine lv_aload_n hx₀ hb dX12_flies_132 rfl (lv_at hl 1 rfl) ?_
              refine lv_aload_n hx₀ hb dX12_flies_133 rfl (lv_at hl 1 rfl) ?_
              refine lv_iload_n hx₀ hb dX12_flies_134 rfl (lv_at hl 2 rfl) ?_
              refine lv_iload hx₀ hb dX12_flies_135 (lv_at hl 0 rfl) ?_
              refine lv_iload hx₀ hb dX12_flies_137 (lv_at hl 0 rfl) ?_
              refine lv_iload hx₀ hb dX12_flies_139 (lv_at hl 6 rfl) ?_
              refine lv_icmp_ge (tgt := 149) hx₀ hb dX12_flies_141 (by decide) (fun c_10 => ?_) (fun c_10 => ?_)
              · refine lv_iload hx₀ hb dX12_flies_149 (lv_at hl 7 rfl) ?_
                obtain ⟨hPc, hDc, hFc, hC⟩ := k_cw (wc := [(kX12 hm vFo vSi vIt vMo la vBy vTy mi vMi pn vPs gn vGs fn vFt le vTo knz7 fez7 enz7 ca anz7 coz7 vPr vSt vFn sn vSg vAl dr), (kAI vMi cI 24 qMi), (kAI vPs cI 32 qPs), (kAI vGs cI 16 qGs), (kAI vPr cI 2 qpz7), (kAI vSt cI 2 qsz7), (kAI vFn cI 2 qfz7)]) hP hD hS hA [7, 0, 1, 2, 4, 5, 6] (by decide +kernel) rfl
                refine va_calli (va_runV (As := [.int p1, .int mz7, .int th]) (rest := [.ref hm]) ⟨hx₀, hb, hml, hown, hts⟩ (e_goes l dC dI cI cJ cQ H.size hm p1 mz7 th vFo vSi vIt vMo la vBy vTy mi vMi pn vPs gn vGs fn vFt le vTo knz7 fez7 enz7 ca anz7 coz7 vPr vSt vFn sn vSg vAl dr qMi qPs qGs qpz7 qsz7 qfz7 (hiz7_5) (lf_g_flies_3 pn p1 hh1 c_2) (lf_g_flies_4 mi mz7 knz7 fez7 enz7 jz7 fr hh0 hiz7_0 hiz7_1 hiz7_2 hiz7_6 hiz7_7 hiz7_8 hjz7 c_8 c_9 c_10) (hh5)) (cwV 3 hts (kGV wd_549 wd_546 wd_547 wd_548 wd_5) rfl rfl rfl (by decide +kernel) ⟨Nat.le_of_ble_eq_true rfl, Nat.le_of_ble_eq_true rfl⟩) (k_preV11 (q0 := 0) hK hPc hDc hN rfl) rfl rfl hl.1 rfl (lv_room (Nat.le_of_ble_eq_true rfl)) dX12_flies_151 ⟨by decide +kernel, by decide +kernel⟩) hS (fun q _ h => hFc q h) hFc (fun r_11 u₀ t₀ H1 locs ht hvm hw hB hz1 hk1 hS => ?_)
                obtain ⟨g_12, ga_13, gl_14, gb_15, gp_16⟩ := u₀
                obtain ⟨hP1, hK1, hD1⟩ := hB
                rw [ht] at hP1
                have hJ := k_jn (wr := [(kAI vTo cI 96 qtz7)]) (wt := [(kAI vTo cI 96 qtz7), (kX12 hm vFo vSi vIt vMo la vBy vTy mi vMi pn vPs gn vGs fn vFt le vTo knz7 fez7 enz7 ca (g_12 0) (g_12 1) vPr vSt vFn sn vSg vAl dr), (kAI vMi cI 24 qMi), (kAI vPs cI 32 qPs), (kAI vGs cI 16 qGs), (kAI vPr cI 2 (ga_13 0)), (kAI vSt cI 2 (ga_13 1)), (kAI vFn cI 2 (ga_13 2))]) hP hD hC [3] rfl (by decide +kernel) (by decide +kernel) hk1 hFc hP1 hD1 rfl
                clear hP hD hPc hDc hFc hC hP1 hD1 hK1 hz1 hk1 hvm ht
                obtain ⟨hP, hD⟩ := hJ
                generalize H1 = H at hP hS ⊢
                try dsimp only at hw
                obtain ⟨c_17, c_18⟩ := hw
                refine va_put (D := (dC, dI)) (ci := 11) (v := .int r_11) (ty := .int) (C := RX12) (T := TX12) (N := 30) hx₀ hb hts inlX12 tyX12 tyX12_ok nmX12 hown hK hP hD hS 1 rfl rfl 19 (by decide) (hts (.fieldLink RX12 196 "BittenStickModel" "end" "I") wd_543) (fun _ h9 => h9) rfl (by decide +kernel) rfl rfl (Nat.le_of_ble_eq_true rfl) dX12_flies_154 ?_
                clear hP hD hS
                intro H locs hP hD hS
                replace hP := k_w2 (wt := [(kAI vTo cI 96 qtz7), (kX12 hm vFo vSi vIt vMo la vBy vTy mi vMi pn vPs gn vGs fn vFt le vTo knz7 fez7 r_11 ca (g_12 0) (g_12 1) vPr vSt vFn sn vSg vAl dr), (kAI vMi cI 24 qMi), (kAI vPs cI 32 qPs), (kAI vGs cI 16 qGs), (kAI vPr cI 2 (ga_13 0)), (kAI vSt cI 2 (ga_13 1)), (kAI vFn cI 2 (ga_13 2))]) hP hD rfl
                replace hD := hP.2
                replace hP := hP.1
                refine lv_aload_n hx₀ hb dX12_flies_157 rfl (lv_at hl 1 rfl) ?_
                refine va_get (D := (dC, dI)) (ci := 11) (v := .ref vTo) (C := RX12) (T := TX12) (N := 30) hx₀ hb hts inlX12 hown hK hP 1 rfl rfl 16 (by decide) (hts (.fieldLink RX12 40 "BittenStickModel" "told" "[I") wd_125) (fun _ h9 => h9) rfl dX12_flies_158 ?_
                refine lv_iconst (v := 4) hx₀ hb dX12_flies_161 (by decide +kernel) ?_
                refine lv_iload hx₀ hb dX12_flies_162 (lv_at hl 0 rfl) ?_
                refine lv_imul hx₀ hb dX12_flies_164 ?_
                refine lv_aload_n hx₀ hb dX12_flies_165 rfl (lv_at hl 1 rfl) ?_
                refine va_get (D := (dC, dI)) (ci := 11) (v := .int (g_12 0)) (C := RX12) (T := TX12) (N := 30) hx₀ hb hts inlX12 hown hK hP 1 rfl rfl 21 (by decide) (hts (.fieldLink RX12 184 "BittenStickModel" "anger" "I") wd_544) (fun _ h9 => h9) rfl dX12_flies_166 ?_
                refine va_iast hx₀ hb hK hP hD hS 0 0 rfl rfl (vp_in_iff.mpr (lf_g_flies_5 mi mz7 knz7 fez7 enz7 jz7 fr hh0 hiz7_0 hiz7_1 hiz7_2 hiz7_6 hiz7_7 hiz7_8 hjz7 c_8 c_9 c_10)) dX12_flies_169 ?_
                clear hP hD hS
                intro H locs hP hD hS
                replace hP := k_w2 (wt := [(kAI vTo cI 96 (upd qtz7 (4 * mz7).toNatClampNeg (g_12 0))), (kX12 hm vFo vSi vIt vMo la vBy vTy mi vMi pn vPs gn vGs fn vFt le vTo knz7 fez7 r_11 ca (g_12 0) (g_12 1) vPr vSt vFn sn vSg vAl dr), (kAI vMi cI 24 qMi), (kAI vPs cI 32 qPs), (kAI vGs cI 16 qGs), (kAI vPr cI 2 (ga_13 0)), (kAI vSt cI 2 (ga_13 1)), (kAI vFn cI 2 (ga_13 2))]) hP hD rfl
                replace hD := hP.2
                replace hP := hP.1
                refine lv_aload_n hx₀ hb dX12_flies_170 rfl (lv_at hl 1 rfl) ?_
                refine va_get (D := (dC, dI)) (ci := 11) (v := .ref vTo) (C := RX12) (T := TX12) (N := 30) hx₀ hb hts inlX12 hown hK hP 1 rfl rfl 16 (by decide) (hts (.fieldLink RX12 40 "BittenStickModel" "told" "[I") wd_125) (fun _ h9 => h9) rfl dX12_flies_171 ?_
                refine lv_iconst (v := 4) hx₀ hb dX12_flies_174 (by decide +kernel) ?_
                refine lv_iload hx₀ hb dX12_flies_175 (lv_at hl 0 rfl) ?_
                refine lv_imul hx₀ hb dX12_flies_177 ?_
                refine lv_iconst (v := 1) hx₀ hb dX12_flies_178 (by decide +kernel) ?_
                refine lv_iadd hx₀ hb dX12_flies_179 ?_
                refine lv_aload_n hx₀ hb dX12_flies_180 rfl (lv_at hl 1 rfl) ?_
                refine va_get (D := (dC, dI)) (ci := 11) (v := .int (g_12 1)) (C := RX12) (T := TX12) (N := 30) hx₀ hb hts inlX12 hown hK hP 1 rfl rfl 22 (by decide) (hts (.fieldLink RX12 177 "BittenStickModel" "cold" "I") wd_545) (fun _ h9 => h9) rfl dX12_flies_181 ?_
                refine va_iast hx₀ hb hK hP hD hS 0 0 rfl rfl (vp_in_iff.mpr (lf_g_flies_6 mi mz7 knz7 fez7 enz7 jz7 fr hh0 hiz7_0 hiz7_1 hiz7_2 hiz7_6 hiz7_7 hiz7_8 hjz7 c_8 c_9 c_10)) dX12_flies_184 ?_
                clear hP hD hS
                intro H locs hP hD hS
                replace hP := k_w2 (wt := [(kAI vTo cI 96 (upd (upd qtz7 (4 * mz7).toNatClampNeg (g_12 0)) ((4 * mz7) + 1).toNatClampNeg (g_12 1))), (kX12 hm vFo vSi vIt vMo la vBy vTy mi vMi pn vPs gn vGs fn vFt le vTo knz7 fez7 r_11 ca (g_12 0) (g_12 1) vPr vSt vFn sn vSg vAl dr), (kAI vMi cI 24 qMi), (kAI vPs cI 32 qPs), (kAI vGs cI 16 qGs), (kAI vPr cI 2 (ga_13 0)), (kAI vSt cI 2 (ga_13 1)), (kAI vFn cI 2 (ga_13 2))]) hP hD rfl
                replace hD := hP.2
                replace hP := hP.1
                refine lv_aload_n hx₀ hb dX12_flies_185 rfl (lv_at hl 1 rfl) ?_
                refine va_get (D := (dC, dI)) (ci := 11) (v := .ref vTo) (C := RX12) (T := TX12) (N := 30) hx₀ hb hts inlX12 hown hK hP 1 rfl rfl 16 (by decide) (hts (.fieldLink RX12 40 "BittenStickModel" "told" "[I") wd_125) (fun _ h9 => h9) rfl dX12_flies_186 ?_
                refine lv_iconst (v := 4) hx₀ hb dX12_flies_189 (by decide +kernel) ?_
                refine lv_iload hx₀ hb dX12_flies_190 (lv_at hl 0 rfl) ?_
                refine lv_imul hx₀ hb dX12_flies_192 ?_
                refine lv_iconst (v := 2) hx₀ hb dX12_flies_193 (by decide +kernel) ?_
                refine lv_iadd hx₀ hb dX12_flies_194 ?_
                refine lv_aload_n hx₀ hb dX12_flies_195 rfl (lv_at hl 1 rfl) ?_
                refine va_get (D := (dC, dI)) (ci := 11) (v := .ref vSt) (C := RX12) (T := TX12) (N := 30) hx₀ hb hts inlX12 hown hK hP 1 rfl rfl 24 (by decide) (hts (.fieldLink RX12 46 "BittenStickModel" "strong" "[I") wd_127) (fun _ h9 => h9) rfl dX12_flies_196 ?_
                refine lv_iconst (v := 0) hx₀ hb dX12_flies_199 (by decide +kernel) ?_
                refine va_iald hx₀ hb hK hP 6 0 rfl rfl (by unfold vp_in; decide +kernel) dX12_flies_200 ?_
                refine k_topi (v := (ga_13 1) 0) rfl ?_
                refine va_iast hx₀ hb hK hP hD hS 0 0 rfl rfl (vp_in_iff.mpr (lf_g_flies_7 mi mz7 knz7 fez7 enz7 jz7 fr hh0 hiz7_0 hiz7_1 hiz7_2 hiz7_6 hiz7_7 hiz7_8 hjz7 c_8 c_9 c_10)) dX12_flies_201 ?_
                clear hP hD hS
                intro H locs hP hD hS
                replace hP := k_w2 (wt := [(kAI vTo cI 96 (upd (upd (upd qtz7 (4 * mz7).toNatClampNeg (g_12 0)) ((4 * mz7) + 1).toNatClampNeg (g_12 1)) ((4 * mz7) + 2).toNatClampNeg ((ga_13 1) 0))), (kX12 hm vFo vSi vIt vMo la vBy vTy mi vMi pn vPs gn vGs fn vFt le vTo knz7 fez7 r_11 ca (g_12 0) (g_12 1) vPr vSt vFn sn vSg vAl dr), (kAI vMi cI 24 qMi), (kAI vPs cI 32 qPs), (kAI vGs cI 16 qGs), (kAI vPr cI 2 (ga_13 0)), (kAI vSt cI 2 (ga_13 1)), (kAI vFn cI 2 (ga_13 2))]) hP hD rfl
                replace hD := hP.2
                replace hP := hP.1
                refine lv_aload_n hx₀ hb dX12_flies_202 rfl (lv_at hl 1 rfl) ?_
                refine va_get (D := (dC, dI)) (ci := 11) (v := .ref vTo) (C := RX12) (T := TX12) (N := 30) hx₀ hb hts inlX12 hown hK hP 1 rfl rfl 16 (by decide) (hts (.fieldLink RX12 40 "BittenStickModel" "told" "[I") wd_125) (fun _ h9 => h9) rfl dX12_flies_203 ?_
                refine lv_iconst (v := 4) hx₀ hb dX12_flies_206 (by decide +kernel) ?_
                refine lv_iload hx₀ hb dX12_flies_207 (lv_at hl 0 rfl) ?_
                refine lv_imul hx₀ hb dX12_flies_209 ?_
                refine lv_iconst (v := 3) hx₀ hb dX12_flies_210 (by decide +kernel) ?_
                refine lv_iadd hx₀ hb dX12_flies_211 ?_
                refine lv_aload_n hx₀ hb dX12_flies_212 rfl (lv_at hl 1 rfl) ?_
                refine va_get (D := (dC, dI)) (ci := 11) (v := .ref vSt) (C := RX12) (T := TX12) (N := 30) hx₀ hb hts inlX12 hown hK hP 1 rfl rfl 24 (by decide) (hts (.fieldLink RX12 46 "BittenStickModel" "strong" "[I") wd_127) (fun _ h9 => h9) rfl dX12_flies_213 ?_
                refine lv_iconst (v := 1) hx₀ hb dX12_flies_216 (by decide +kernel) ?_
                refine va_iald hx₀ hb hK hP 6 0 rfl rfl (by unfold vp_in; decide +kernel) dX12_flies_217 ?_
                refine k_topi (v := (ga_13 1) 1) rfl ?_
                refine va_iast hx₀ hb hK hP hD hS 0 0 rfl rfl (vp_in_iff.mpr (lf_g_flies_8 mi mz7 knz7 fez7 enz7 jz7 fr hh0 hiz7_0 hiz7_1 hiz7_2 hiz7_6 hiz7_7 hiz7_8 hjz7 c_8 c_9 c_10)) dX12_flies_218 ?_
                clear hP hD hS
                intro H locs hP hD hS
                replace hP := k_w2 (wt := [(kAI vTo cI 96 (upd (upd (upd (upd qtz7 (4 * mz7).toNatClampNeg (g_12 0)) ((4 * mz7) + 1).toNatClampNeg (g_12 1)) ((4 * mz7) + 2).toNatClampNeg ((ga_13 1) 0)) ((4 * mz7) + 3).toNatClampNeg ((ga_13 1) 1))), (kX12 hm vFo vSi vIt vMo la vBy vTy mi vMi pn vPs gn vGs fn vFt le vTo knz7 fez7 r_11 ca (g_12 0) (g_12 1) vPr vSt vFn sn vSg vAl dr), (kAI vMi cI 24 qMi), (kAI vPs cI 32 qPs), (kAI vGs cI 16 qGs), (kAI vPr cI 2 (ga_13 0)), (kAI vSt cI 2 (ga_13 1)), (kAI vFn cI 2 (ga_13 2))]) hP hD rfl
                replace hD := hP.2
                replace hP := hP.1
                refine lv_aload_n hx₀ hb dX12_flies_219 rfl (lv_at hl 1 rfl) ?_
                refine lv_dup hx₀ hb dX12_flies_220 rfl ?_
                refine va_get (D := (dC, dI)) (ci := 11) (v := .int knz7) (C := RX12) (T := TX12) (N := 30) hx₀ hb hts inlX12 hown hK hP 1 rfl rfl 17 (by decide) (hts (.fieldLink RX12 190 "BittenStickModel" "known" "I") wd_541) (fun _ h9 => h9) rfl dX12_flies_221 ?_
                refine lv_iconst (v := 1) hx₀ hb dX12_flies_224 (by decide +kernel) ?_
                refine lv_iadd hx₀ hb dX12_flies_225 ?_
                refine va_put (D := (dC, dI)) (ci := 11) (v := .int (knz7 + 1)) (ty := .int) (C := RX12) (T := TX12) (N := 30) hx₀ hb hts inlX12 tyX12 tyX12_ok nmX12 hown hK hP hD hS 1 rfl rfl 17 (by decide) (hts (.fieldLink RX12 190 "BittenStickModel" "known" "I") wd_541) (fun _ h9 => h9) rfl (by decide +kernel) rfl rfl (Nat.le_of_ble_eq_true rfl) dX12_flies_226 ?_
                clear hP hD hS
                intro H locs hP hD hS
                replace hP := k_w2 (wt := [(kAI vTo cI 96 (upd (upd (upd (upd qtz7 (4 * mz7).toNatClampNeg (g_12 0)) ((4 * mz7) + 1).toNatClampNeg (g_12 1)) ((4 * mz7) + 2).toNatClampNeg ((ga_13 1) 0)) ((4 * mz7) + 3).toNatClampNeg ((ga_13 1) 1))), (kX12 hm vFo vSi vIt vMo la vBy vTy mi vMi pn vPs gn vGs fn vFt le vTo (knz7 + 1) fez7 r_11 ca (g_12 0) (g_12 1) vPr vSt vFn sn vSg vAl dr), (kAI vMi cI 24 qMi), (kAI vPs cI 32 qPs), (kAI vGs cI 16 qGs), (kAI vPr cI 2 (ga_13 0)), (kAI vSt cI 2 (ga_13 1)), (kAI vFn cI 2 (ga_13 2))]) hP hD rfl
                replace hD := hP.2
                replace hP := hP.1
                refine lv_aload_n hx₀ hb dX12_flies_229 rfl (lv_at hl 1 rfl) ?_
                refine lv_aload_n hx₀ hb dX12_flies_230 rfl (lv_at hl 1 rfl) ?_
                refine va_get (D := (dC, dI)) (ci := 11) (v := .int r_11) (C := RX12) (T := TX12) (N := 30) hx₀ hb hts inlX12 hown hK hP 1 rfl rfl 19 (by decide) (hts (.fieldLink RX12 196 "BittenStickModel" "end" "I") wd_543) (fun _ h9 => h9) rfl dX12_flies_231 ?_
                refine lv_if_ne (tgt := 244) hx₀ hb dX12_flies_234 (by decide) (fun c_19 => ?_) (fun c_19 => ?_)
                · refine lv_iload hx₀ hb dX12_flies_244 (lv_at hl 0 rfl) ?_
                  refine va_put (D := (dC, dI)) (ci := 11) (v := .int mz7) (ty := .int) (C := RX12) (T := TX12) (N := 30) hx₀ hb hts inlX12 tyX12 tyX12_ok nmX12 hown hK hP hD hS 1 rfl rfl 18 (by decide) (hts (.fieldLink RX12 193 "BittenStickModel" "fell" "I") wd_542) (fun _ h9 => h9) rfl (by decide +kernel) rfl rfl (Nat.le_of_ble_eq_true rfl) dX12_flies_246 ?_
                  clear hP hD hS
                  intro H locs hP hD hS
                  replace hP := k_w2 (wt := [(kAI vTo cI 96 (upd (upd (upd (upd qtz7 (4 * mz7).toNatClampNeg (g_12 0)) ((4 * mz7) + 1).toNatClampNeg (g_12 1)) ((4 * mz7) + 2).toNatClampNeg ((ga_13 1) 0)) ((4 * mz7) + 3).toNatClampNeg ((ga_13 1) 1))), (kX12 hm vFo vSi vIt vMo la vBy vTy mi vMi pn vPs gn vGs fn vFt le vTo (knz7 + 1) mz7 r_11 ca (g_12 0) (g_12 1) vPr vSt vFn sn vSg vAl dr), (kAI vMi cI 24 qMi), (kAI vPs cI 32 qPs), (kAI vGs cI 16 qGs), (kAI vPr cI 2 (ga_13 0)), (kAI vSt cI 2 (ga_13 1)), (kAI vFn cI 2 (ga_13 2))]) hP hD rfl
                  replace hD := hP.2
                  replace hP := hP.1
                  refine lv_iinc (v := mz7 + 1) (lv' := [(7, .int (mz7 + 1)), (0, .ref hm), (1, .int p1), (2, .int le1), (3, .int ri1), (4, .int h1), (5, .int fr), (6, .int th)]) hx₀ hb dX12_flies_249 hl (k := 0) rfl rfl (by decide) rfl (fun ls hl => ?_)
                  refine lv_goto (tgt := 116) hx₀ hb dX12_flies_252 (by decide) ?_
                  exact ihz7 _ (lf_g_flies_15 mi mz7 knz7 fez7 enz7 jz7 fr hh0 hiz7_0 hiz7_1 hiz7_2 hiz7_6 hiz7_7 hiz7_8 hjz7 c_8 c_9 c_10) (mz7 + 1) (knz7 + 1) mz7 r_11 (g_12 0) (g_12 1) (upd (upd (upd (upd qtz7 (4 * mz7).toNatClampNeg (g_12 0)) ((4 * mz7) + 1).toNatClampNeg (g_12 1)) ((4 * mz7) + 2).toNatClampNeg ((ga_13 1) 0)) ((4 * mz7) + 3).toNatClampNeg ((ga_13 1) 1)) (ga_13 0) (ga_13 1) (ga_13 2) _ _ _ (lf_g_flies_9 mi mz7 knz7 fez7 enz7 jz7 fr hh0 hiz7_0 hiz7_1 hiz7_2 hiz7_6 hiz7_7 hiz7_8 hjz7 c_8 c_9 c_10) (lf_g_flies_10 mi mz7 knz7 fez7 enz7 jz7 fr hh0 hiz7_0 hiz7_1 hiz7_2 hiz7_6 hiz7_7 hiz7_8 hjz7 c_8 c_9 c_10) (lf_g_flies_11 mi mz7 knz7 fez7 enz7 jz7 fr hh0 hiz7_0 hiz7_1 hiz7_2 hiz7_6 hiz7_7 hiz7_8 hjz7 c_8 c_9 c_10) (k_fr_t hiz7_3 c_9 (hiz7_0.1) c_8 (hh0.2) (hh6 p1 (c_2)) (if_neg (Int32.not_lt.mpr c_10)) ((if_neg c_19).symm) (by rw [← hh7]; exact c_18)) (k_fs_t hiz7_4 c_9 (hiz7_0.1) (lf_e_flies14_1 mi mz7 knz7 fez7 enz7 jz7 fr hh0 hiz7_0 hiz7_1 hiz7_2 hiz7_6 hiz7_7 hiz7_8 hjz7 c_8 c_9 c_10) (k_fr_m hiz7_3 c_9) ((if_neg c_19).symm) c_18 rfl rfl) (c_17) (lf_g_flies_12 mi mz7 knz7 fez7 enz7 jz7 fr hh0 hiz7_0 hiz7_1 hiz7_2 hiz7_6 hiz7_7 hiz7_8 hjz7 c_8 c_9 c_10) (lf_g_flies_13 mi mz7 knz7 fez7 enz7 jz7 fr r_11 hh0 hiz7_0 hiz7_1 hiz7_2 hiz7_6 hiz7_7 hiz7_8 hjz7 c_8 c_9 c_10 c_19) (lf_g_flies_14 mi mz7 knz7 fez7 enz7 jz7 fr hh0 hiz7_0 hiz7_1 hiz7_2 hiz7_6 hiz7_7 hiz7_8 hjz7 c_8 c_9 c_10) rfl (hP.sub [2, 3, 4, 0, 5, 6, 7, 1] rfl) (hD.sub [2, 3, 4, 0, 5, 6, 7, 1] (by decide +kernel) rfl) hS (lv_sub hl [0, 1, 2, 3, 4, 5, 6, 7] rfl)
                · refine lv_iload hx₀ hb dX12_flies_237 (lv_at hl 0 rfl) ?_
                  refine lv_iconst (v := 1) hx₀ hb dX12_flies_239 (by decide +kernel) ?_
                  refine lv_iadd hx₀ hb dX12_flies_240 ?_
                  refine lv_goto (tgt := 246) hx₀ hb dX12_flies_241 (by decide) ?_
                  refine va_put (D := (dC, dI)) (ci := 11) (v := .int (mz7 + 1)) (ty := .int) (C := RX12) (T := TX12) (N := 30) hx₀ hb hts inlX12 tyX12 tyX12_ok nmX12 hown hK hP hD hS 1 rfl rfl 18 (by decide) (hts (.fieldLink RX12 193 "BittenStickModel" "fell" "I") wd_542) (fun _ h9 => h9) rfl (by decide +kernel) rfl rfl (Nat.le_of_ble_eq_true rfl) dX12_flies_246 ?_
                  clear hP hD hS
                  intro H locs hP hD hS
                  replace hP := k_w2 (wt := [(kAI vTo cI 96 (upd (upd (upd (upd qtz7 (4 * mz7).toNatClampNeg (g_12 0)) ((4 * mz7) + 1).toNatClampNeg (g_12 1)) ((4 * mz7) + 2).toNatClampNeg ((ga_13 1) 0)) ((4 * mz7) + 3).toNatClampNeg ((ga_13 1) 1))), (kX12 hm vFo vSi vIt vMo la vBy vTy mi vMi pn vPs gn vGs fn vFt le vTo (knz7 + 1) (mz7 + 1) r_11 ca (g_12 0) (g_12 1) vPr vSt vFn sn vSg vAl dr), (kAI vMi cI 24 qMi), (kAI vPs cI 32 qPs), (kAI vGs cI 16 qGs), (kAI vPr cI 2 (ga_13 0)), (kAI vSt cI 2 (ga_13 1)), (kAI vFn cI 2 (ga_13 2))]) hP hD rfl
                  replace hD := hP.2
                  replace hP := hP.1
                  refine lv_iinc (v := mz7 + 1) (lv' := [(7, .int (mz7 + 1)), (0, .ref hm), (1, .int p1), (2, .int le1), (3, .int ri1), (4, .int h1), (5, .int fr), (6, .int th)]) hx₀ hb dX12_flies_249 hl (k := 0) rfl rfl (by decide) rfl (fun ls hl => ?_)
                  refine lv_goto (tgt := 116) hx₀ hb dX12_flies_252 (by decide) ?_
                  exact ihz7 _ (lf_g_flies_15 mi mz7 knz7 fez7 enz7 jz7 fr hh0 hiz7_0 hiz7_1 hiz7_2 hiz7_6 hiz7_7 hiz7_8 hjz7 c_8 c_9 c_10) (mz7 + 1) (knz7 + 1) (mz7 + 1) r_11 (g_12 0) (g_12 1) (upd (upd (upd (upd qtz7 (4 * mz7).toNatClampNeg (g_12 0)) ((4 * mz7) + 1).toNatClampNeg (g_12 1)) ((4 * mz7) + 2).toNatClampNeg ((ga_13 1) 0)) ((4 * mz7) + 3).toNatClampNeg ((ga_13 1) 1)) (ga_13 0) (ga_13 1) (ga_13 2) _ _ _ (lf_g_flies_9 mi mz7 knz7 fez7 enz7 jz7 fr hh0 hiz7_0 hiz7_1 hiz7_2 hiz7_6 hiz7_7 hiz7_8 hjz7 c_8 c_9 c_10) (lf_g_flies_10 mi mz7 knz7 fez7 enz7 jz7 fr hh0 hiz7_0 hiz7_1 hiz7_2 hiz7_6 hiz7_7 hiz7_8 hjz7 c_8 c_9 c_10) (lf_g_flies_16 mi mz7 knz7 fez7 enz7 jz7 fr hh0 hiz7_0 hiz7_1 hiz7_2 hiz7_6 hiz7_7 hiz7_8 hjz7 c_8 c_9 c_10) (k_fr_t hiz7_3 c_9 (hiz7_0.1) c_8 (hh0.2) (hh6 p1 (c_2)) (if_neg (Int32.not_lt.mpr c_10)) ((if_pos c_19).symm) (by rw [← hh7]; exact c_18)) (k_fs_t hiz7_4 c_9 (hiz7_0.1) (lf_e_flies14_1 mi mz7 knz7 fez7 enz7 jz7 fr hh0 hiz7_0 hiz7_1 hiz7_2 hiz7_6 hiz7_7 hiz7_8 hjz7 c_8 c_9 c_10) (k_fr_m hiz7_3 c_9) ((if_pos c_19).symm) c_18 rfl rfl) (c_17) (lf_g_flies_17 mi mz7 knz7 fez7 enz7 jz7 fr hh0 hiz7_0 hiz7_1 hiz7_2 hiz7_6 hiz7_7 hiz7_8 hjz7 c_8 c_9 c_10) (show r_11 = 0 ∨ (knz7 + 1) = 0 ∨ (mz7 + 1) ≤ 23 from (Or.inl (c_19))) (lf_g_flies_14 mi mz7 knz7 fez7 enz7 jz7 fr hh0 hiz7_0 hiz7_1 hiz7_2 hiz7_6 hiz7_7 hiz7_8 hjz7 c_8 c_9 c_10) rfl (hP.sub [2, 3, 4, 0, 5, 6, 7, 1] rfl) (hD.sub [2, 3, 4, 0, 5, 6, 7, 1] (by decide +kernel) rfl) hS (lv_sub hl [0, 1, 2, 3, 4, 5, 6, 7] rfl)
              · refine lv_iload hx₀ hb dX12_flies_144 (lv_at hl 5 rfl) ?_
                refine lv_goto (tgt := 151) hx₀ hb dX12_flies_146 (by decide) ?_
                obtain ⟨hPc, hDc, hFc, hC⟩ := k_cw (wc := [(kX12 hm vFo vSi vIt vMo la vBy vTy mi vMi pn vPs gn vGs fn vFt le vTo knz7 fez7 enz7 ca anz7 coz7 vPr vSt vFn sn vSg vAl dr), (kAI vMi cI 24 qMi), (kAI vPs cI 32 qPs), (kAI vGs cI 16 qGs), (kAI vPr cI 2 qpz7), (kAI vSt cI 2 qsz7), (kAI vFn cI 2 qfz7)]) hP hD hS hA [7, 0, 1, 2, 4, 5, 6] (by decide +kernel) rfl
                refine va_calli (va_runV (As := [.int p1, .int mz7, .int h1]) (rest := [.ref hm]) ⟨hx₀, hb, hml, hown, hts⟩ (e_goes l dC dI cI cJ cQ H.size hm p1 mz7 h1 vFo vSi vIt vMo la vBy vTy mi vMi pn vPs gn vGs fn vFt le vTo knz7 fez7 enz7 ca anz7 coz7 vPr vSt vFn sn vSg vAl dr qMi qPs qGs qpz7 qsz7 qfz7 (hiz7_5) (lf_g_flies_3 pn p1 hh1 c_2) (lf_g_flies_18 mi mz7 knz7 fez7 enz7 jz7 fr hh0 hiz7_0 hiz7_1 hiz7_2 hiz7_6 hiz7_7 hiz7_8 hjz7 c_8 c_9 c_10) (hh4)) (cwV 3 hts (kGV wd_549 wd_546 wd_547 wd_548 wd_5) rfl rfl rfl (by decide +kernel) ⟨Nat.le_of_ble_eq_true rfl, Nat.le_of_ble_eq_true rfl⟩) (k_preV11 (q0 := 0) hK hPc hDc hN rfl) rfl rfl hl.1 rfl (lv_room (Nat.le_of_ble_eq_true rfl)) dX12_flies_151 ⟨by decide +kernel, by decide +kernel⟩) hS (fun q _ h => hFc q h) hFc (fun r_20 u₀ t₀ H1 locs ht hvm hw hB hz1 hk1 hS => ?_)
                obtain ⟨g_21, ga_22, gl_23, gb_24, gp_25⟩ := u₀
                obtain ⟨hP1, hK1, hD1⟩ := hB
                rw [ht] at hP1
                have hJ := k_jn (wr := [(kAI vTo cI 96 qtz7)]) (wt := [(kAI vTo cI 96 qtz7), (kX12 hm vFo vSi vIt vMo la vBy vTy mi vMi pn vPs gn vGs fn vFt le vTo knz7 fez7 enz7 ca (g_21 0) (g_21 1) vPr vSt vFn sn vSg vAl dr), (kAI vMi cI 24 qMi), (kAI vPs cI 32 qPs), (kAI vGs cI 16 qGs), (kAI vPr cI 2 (ga_22 0)), (kAI vSt cI 2 (ga_22 1)), (kAI vFn cI 2 (ga_22 2))]) hP hD hC [3] rfl (by decide +kernel) (by decide +kernel) hk1 hFc hP1 hD1 rfl
                clear hP hD hPc hDc hFc hC hP1 hD1 hK1 hz1 hk1 hvm ht
                obtain ⟨hP, hD⟩ := hJ
                generalize H1 = H at hP hS ⊢
                try dsimp only at hw
                obtain ⟨c_26, c_27⟩ := hw
                refine va_put (D := (dC, dI)) (ci := 11) (v := .int r_20) (ty := .int) (C := RX12) (T := TX12) (N := 30) hx₀ hb hts inlX12 tyX12 tyX12_ok nmX12 hown hK hP hD hS 1 rfl rfl 19 (by decide) (hts (.fieldLink RX12 196 "BittenStickModel" "end" "I") wd_543) (fun _ h9 => h9) rfl (by decide +kernel) rfl rfl (Nat.le_of_ble_eq_true rfl) dX12_flies_154 ?_
                clear hP hD hS
                intro H locs hP hD hS
                replace hP := k_w2 (wt := [(kAI vTo cI 96 qtz7), (kX12 hm vFo vSi vIt vMo la vBy vTy mi vMi pn vPs gn vGs fn vFt le vTo knz7 fez7 r_20 ca (g_21 0) (g_21 1) vPr vSt vFn sn vSg vAl dr), (kAI vMi cI 24 qMi), (kAI vPs cI 32 qPs), (kAI vGs cI 16 qGs), (kAI vPr cI 2 (ga_22 0)), (kAI vSt cI 2 (ga_22 1)), (kAI vFn cI 2 (ga_22 2))]) hP hD rfl
                replace hD := hP.2
                replace hP := hP.1
                refine lv_aload_n hx₀ hb dX12_flies_157 rfl (lv_at hl 1 rfl) ?_
                refine va_get (D := (dC, dI)) (ci := 11) (v := .ref vTo) (C := RX12) (T := TX12) (N := 30) hx₀ hb hts inlX12 hown hK hP 1 rfl rfl 16 (by decide) (hts (.fieldLink RX12 40 "BittenStickModel" "told" "[I") wd_125) (fun _ h9 => h9) rfl dX12_flies_158 ?_
                refine lv_iconst (v := 4) hx₀ hb dX12_flies_161 (by decide +kernel) ?_
                refine lv_iload hx₀ hb dX12_flies_162 (lv_at hl 0 rfl) ?_
                refine lv_imul hx₀ hb dX12_flies_164 ?_
                refine lv_aload_n hx₀ hb dX12_flies_165 rfl (lv_at hl 1 rfl) ?_
                refine va_get (D := (dC, dI)) (ci := 11) (v := .int (g_21 0)) (C := RX12) (T := TX12) (N := 30) hx₀ hb hts inlX12 hown hK hP 1 rfl rfl 21 (by decide) (hts (.fieldLink RX12 184 "BittenStickModel" "anger" "I") wd_544) (fun _ h9 => h9) rfl dX12_flies_166 ?_
                refine va_iast hx₀ hb hK hP hD hS 0 0 rfl rfl (vp_in_iff.mpr (lf_g_flies_19 mi mz7 knz7 fez7 enz7 jz7 fr hh0 hiz7_0 hiz7_1 hiz7_2 hiz7_6 hiz7_7 hiz7_8 hjz7 c_8 c_9 c_10)) dX12_flies_169 ?_
                clear hP hD hS
                intro H locs hP hD hS
                replace hP := k_w2 (wt := [(kAI vTo cI 96 (upd qtz7 (4 * mz7).toNatClampNeg (g_21 0))), (kX12 hm vFo vSi vIt vMo la vBy vTy mi vMi pn vPs gn vGs fn vFt le vTo knz7 fez7 r_20 ca (g_21 0) (g_21 1) vPr vSt vFn sn vSg vAl dr), (kAI vMi cI 24 qMi), (kAI vPs cI 32 qPs), (kAI vGs cI 16 qGs), (kAI vPr cI 2 (ga_22 0)), (kAI vSt cI 2 (ga_22 1)), (kAI vFn cI 2 (ga_22 2))]) hP hD rfl
                replace hD := hP.2
                replace hP := hP.1
                refine lv_aload_n hx₀ hb dX12_flies_170 rfl (lv_at hl 1 rfl) ?_
                refine va_get (D := (dC, dI)) (ci := 11) (v := .ref vTo) (C := RX12) (T := TX12) (N := 30) hx₀ hb hts inlX12 hown hK hP 1 rfl rfl 16 (by decide) (hts (.fieldLink RX12 40 "BittenStickModel" "told" "[I") wd_125) (fun _ h9 => h9) rfl dX12_flies_171 ?_
                refine lv_iconst (v := 4) hx₀ hb dX12_flies_174 (by decide +kernel) ?_
                refine lv_iload hx₀ hb dX12_flies_175 (lv_at hl 0 rfl) ?_
                refine lv_imul hx₀ hb dX12_flies_177 ?_
                refine lv_iconst (v := 1) hx₀ hb dX12_flies_178 (by decide +kernel) ?_
                refine lv_iadd hx₀ hb dX12_flies_179 ?_
                refine lv_aload_n hx₀ hb dX12_flies_180 rfl (lv_at hl 1 rfl) ?_
                refine va_get (D := (dC, dI)) (ci := 11) (v := .int (g_21 1)) (C := RX12) (T := TX12) (N := 30) hx₀ hb hts inlX12 hown hK hP 1 rfl rfl 22 (by decide) (hts (.fieldLink RX12 177 "BittenStickModel" "cold" "I") wd_545) (fun _ h9 => h9) rfl dX12_flies_181 ?_
                refine va_iast hx₀ hb hK hP hD hS 0 0 rfl rfl (vp_in_iff.mpr (lf_g_flies_20 mi mz7 knz7 fez7 enz7 jz7 fr hh0 hiz7_0 hiz7_1 hiz7_2 hiz7_6 hiz7_7 hiz7_8 hjz7 c_8 c_9 c_10)) dX12_flies_184 ?_
                clear hP hD hS
                intro H locs hP hD hS
                replace hP := k_w2 (wt := [(kAI vTo cI 96 (upd (upd qtz7 (4 * mz7).toNatClampNeg (g_21 0)) ((4 * mz7) + 1).toNatClampNeg (g_21 1))), (kX12 hm vFo vSi vIt vMo la vBy vTy mi vMi pn vPs gn vGs fn vFt le vTo knz7 fez7 r_20 ca (g_21 0) (g_21 1) vPr vSt vFn sn vSg vAl dr), (kAI vMi cI 24 qMi), (kAI vPs cI 32 qPs), (kAI vGs cI 16 qGs), (kAI vPr cI 2 (ga_22 0)), (kAI vSt cI 2 (ga_22 1)), (kAI vFn cI 2 (ga_22 2))]) hP hD rfl
                replace hD := hP.2
                replace hP := hP.1
                refine lv_aload_n hx₀ hb dX12_flies_185 rfl (lv_at hl 1 rfl) ?_
                refine va_get (D := (dC, dI)) (ci := 11) (v := .ref vTo) (C := RX12) (T := TX12) (N := 30) hx₀ hb hts inlX12 hown hK hP 1 rfl rfl 16 (by decide) (hts (.fieldLink RX12 40 "BittenStickModel" "told" "[I") wd_125) (fun _ h9 => h9) rfl dX12_flies_186 ?_
                refine lv_iconst (v := 4) hx₀ hb dX12_flies_189 (by decide +kernel) ?_
                refine lv_iload hx₀ hb dX12_flies_190 (lv_at hl 0 rfl) ?_
                refine lv_imul hx₀ hb dX12_flies_192 ?_
                refine lv_iconst (v := 2) hx₀ hb dX12_flies_193 (by decide +kernel) ?_
                refine lv_iadd hx₀ hb dX12_flies_194 ?_
                refine lv_aload_n hx₀ hb dX12_flies_195 rfl (lv_at hl 1 rfl) ?_
                refine va_get (D := (dC, dI)) (ci := 11) (v := .ref vSt) (C := RX12) (T := TX12) (N := 30) hx₀ hb hts inlX12 hown hK hP 1 rfl rfl 24 (by decide) (hts (.fieldLink RX12 46 "BittenStickModel" "strong" "[I") wd_127) (fun _ h9 => h9) rfl dX12_flies_196 ?_
                refine lv_iconst (v := 0) hx₀ hb dX12_flies_199 (by decide +kernel) ?_
                refine va_iald hx₀ hb hK hP 6 0 rfl rfl (by unfold vp_in; decide +kernel) dX12_flies_200 ?_
                refine k_topi (v := (ga_22 1) 0) rfl ?_
                refine va_iast hx₀ hb hK hP hD hS 0 0 rfl rfl (vp_in_iff.mpr (lf_g_flies_21 mi mz7 knz7 fez7 enz7 jz7 fr hh0 hiz7_0 hiz7_1 hiz7_2 hiz7_6 hiz7_7 hiz7_8 hjz7 c_8 c_9 c_10)) dX12_flies_201 ?_
                clear hP hD hS
                intro H locs hP hD hS
                replace hP := k_w2 (wt := [(kAI vTo cI 96 (upd (upd (upd qtz7 (4 * mz7).toNatClampNeg (g_21 0)) ((4 * mz7) + 1).toNatClampNeg (g_21 1)) ((4 * mz7) + 2).toNatClampNeg ((ga_22 1) 0))), (kX12 hm vFo vSi vIt vMo la vBy vTy mi vMi pn vPs gn vGs fn vFt le vTo knz7 fez7 r_20 ca (g_21 0) (g_21 1) vPr vSt vFn sn vSg vAl dr), (kAI vMi cI 24 qMi), (kAI vPs cI 32 qPs), (kAI vGs cI 16 qGs), (kAI vPr cI 2 (ga_22 0)), (kAI vSt cI 2 (ga_22 1)), (kAI vFn cI 2 (ga_22 2))]) hP hD rfl
                replace hD := hP.2
                replace hP := hP.1
                refine lv_aload_n hx₀ hb dX12_flies_202 rfl (lv_at hl 1 rfl) ?_
                refine va_get (D := (dC, dI)) (ci := 11) (v := .ref vTo) (C := RX12) (T := TX12) (N := 30) hx₀ hb hts inlX12 hown hK hP 1 rfl rfl 16 (by decide) (hts (.fieldLink RX12 40 "BittenStickModel" "told" "[I") wd_125) (fun _ h9 => h9) rfl dX12_flies_203 ?_
                refine lv_iconst (v := 4) hx₀ hb dX12_flies_206 (by decide +kernel) ?_
                refine lv_iload hx₀ hb dX12_flies_207 (lv_at hl 0 rfl) ?_
                refine lv_imul hx₀ hb dX12_flies_209 ?_
                refine lv_iconst (v := 3) hx₀ hb dX12_flies_210 (by decide +kernel) ?_
                refine lv_iadd hx₀ hb dX12_flies_211 ?_
                refine lv_aload_n hx₀ hb dX12_flies_212 rfl (lv_at hl 1 rfl) ?_
                refine va_get (D := (dC, dI)) (ci := 11) (v := .ref vSt) (C := RX12) (T := TX12) (N := 30) hx₀ hb hts inlX12 hown hK hP 1 rfl rfl 24 (by decide) (hts (.fieldLink RX12 46 "BittenStickModel" "strong" "[I") wd_127) (fun _ h9 => h9) rfl dX12_flies_213 ?_
                refine lv_iconst (v := 1) hx₀ hb dX12_flies_216 (by decide +kernel) ?_
                refine va_iald hx₀ hb hK hP 6 0 rfl rfl (by unfold vp_in; decide +kernel) dX12_flies_217 ?_
                refine k_topi (v := (ga_22 1) 1) rfl ?_
                refine va_iast hx₀ hb hK hP hD hS 0 0 rfl rfl (vp_in_iff.mpr (lf_g_flies_22 mi mz7 knz7 fez7 enz7 jz7 fr hh0 hiz7_0 hiz7_1 hiz7_2 hiz7_6 hiz7_7 hiz7_8 hjz7 c_8 c_9 c_10)) dX12_flies_218 ?_
                clear hP hD hS
                intro H locs hP hD hS
                replace hP := k_w2 (wt := [(kAI vTo cI 96 (upd (upd (upd (upd qtz7 (4 * mz7).toNatClampNeg (g_21 0)) ((4 * mz7) + 1).toNatClampNeg (g_21 1)) ((4 * mz7) + 2).toNatClampNeg ((ga_22 1) 0)) ((4 * mz7) + 3).toNatClampNeg ((ga_22 1) 1))), (kX12 hm vFo vSi vIt vMo la vBy vTy mi vMi pn vPs gn vGs fn vFt le vTo knz7 fez7 r_20 ca (g_21 0) (g_21 1) vPr vSt vFn sn vSg vAl dr), (kAI vMi cI 24 qMi), (kAI vPs cI 32 qPs), (kAI vGs cI 16 qGs), (kAI vPr cI 2 (ga_22 0)), (kAI vSt cI 2 (ga_22 1)), (kAI vFn cI 2 (ga_22 2))]) hP hD rfl
                replace hD := hP.2
                replace hP := hP.1
                refine lv_aload_n hx₀ hb dX12_flies_219 rfl (lv_at hl 1 rfl) ?_
                refine lv_dup hx₀ hb dX12_flies_220 rfl ?_
                refine va_get (D := (dC, dI)) (ci := 11) (v := .int knz7) (C := RX12) (T := TX12) (N := 30) hx₀ hb hts inlX12 hown hK hP 1 rfl rfl 17 (by decide) (hts (.fieldLink RX12 190 "BittenStickModel" "known" "I") wd_541) (fun _ h9 => h9) rfl dX12_flies_221 ?_
                refine lv_iconst (v := 1) hx₀ hb dX12_flies_224 (by decide +kernel) ?_
                refine lv_iadd hx₀ hb dX12_flies_225 ?_
                refine va_put (D := (dC, dI)) (ci := 11) (v := .int (knz7 + 1)) (ty := .int) (C := RX12) (T := TX12) (N := 30) hx₀ hb hts inlX12 tyX12 tyX12_ok nmX12 hown hK hP hD hS 1 rfl rfl 17 (by decide) (hts (.fieldLink RX12 190 "BittenStickModel" "known" "I") wd_541) (fun _ h9 => h9) rfl (by decide +kernel) rfl rfl (Nat.le_of_ble_eq_true rfl) dX12_flies_226 ?_
                clear hP hD hS
                intro H locs hP hD hS
                replace hP := k_w2 (wt := [(kAI vTo cI 96 (upd (upd (upd (upd qtz7 (4 * mz7).toNatClampNeg (g_21 0)) ((4 * mz7) + 1).toNatClampNeg (g_21 1)) ((4 * mz7) + 2).toNatClampNeg ((ga_22 1) 0)) ((4 * mz7) + 3).toNatClampNeg ((ga_22 1) 1))), (kX12 hm vFo vSi vIt vMo la vBy vTy mi vMi pn vPs gn vGs fn vFt le vTo (knz7 + 1) fez7 r_20 ca (g_21 0) (g_21 1) vPr vSt vFn sn vSg vAl dr), (kAI vMi cI 24 qMi), (kAI vPs cI 32 qPs), (kAI vGs cI 16 qGs), (kAI vPr cI 2 (ga_22 0)), (kAI vSt cI 2 (ga_22 1)), (kAI vFn cI 2 (ga_22 2))]) hP hD rfl
                replace hD := hP.2
                replace hP := hP.1
                refine lv_aload_n hx₀ hb dX12_flies_229 rfl (lv_at hl 1 rfl) ?_
                refine lv_aload_n hx₀ hb dX12_flies_230 rfl (lv_at hl 1 rfl) ?_
                refine va_get (D := (dC, dI)) (ci := 11) (v := .int r_20) (C := RX12) (T := TX12) (N := 30) hx₀ hb hts inlX12 hown hK hP 1 rfl rfl 19 (by decide) (hts (.fieldLink RX12 196 "BittenStickModel" "end" "I") wd_543) (fun _ h9 => h9) rfl dX12_flies_231 ?_
                refine lv_if_ne (tgt := 244) hx₀ hb dX12_flies_234 (by decide) (fun c_28 => ?_) (fun c_28 => ?_)
                · refine lv_iload hx₀ hb dX12_flies_244 (lv_at hl 0 rfl) ?_
                  refine va_put (D := (dC, dI)) (ci := 11) (v := .int mz7) (ty := .int) (C := RX12) (T := TX12) (N := 30) hx₀ hb hts inlX12 tyX12 tyX12_ok nmX12 hown hK hP hD hS 1 rfl rfl 18 (by decide) (hts (.fieldLink RX12 193 "BittenStickModel" "fell" "I") wd_542) (fun _ h9 => h9) rfl (by decide +kernel) rfl rfl (Nat.le_of_ble_eq_true rfl) dX12_flies_246 ?_
                  clear hP hD hS
                  intro H locs hP hD hS
                  replace hP := k_w2 (wt := [(kAI vTo cI 96 (upd (upd (upd (upd qtz7 (4 * mz7).toNatClampNeg (g_21 0)) ((4 * mz7) + 1).toNatClampNeg (g_21 1)) ((4 * mz7) + 2).toNatClampNeg ((ga_22 1) 0)) ((4 * mz7) + 3).toNatClampNeg ((ga_22 1) 1))), (kX12 hm vFo vSi vIt vMo la vBy vTy mi vMi pn vPs gn vGs fn vFt le vTo (knz7 + 1) mz7 r_20 ca (g_21 0) (g_21 1) vPr vSt vFn sn vSg vAl dr), (kAI vMi cI 24 qMi), (kAI vPs cI 32 qPs), (kAI vGs cI 16 qGs), (kAI vPr cI 2 (ga_22 0)), (kAI vSt cI 2 (ga_22 1)), (kAI vFn cI 2 (ga_22 2))]) hP hD rfl
                  replace hD := hP.2
                  replace hP := hP.1
                  refine lv_iinc (v := mz7 + 1) (lv' := [(7, .int (mz7 + 1)), (0, .ref hm), (1, .int p1), (2, .int le1), (3, .int ri1), (4, .int h1), (5, .int fr), (6, .int th)]) hx₀ hb dX12_flies_249 hl (k := 0) rfl rfl (by decide) rfl (fun ls hl => ?_)
                  refine lv_goto (tgt := 116) hx₀ hb dX12_flies_252 (by decide) ?_
                  exact ihz7 _ (lf_g_flies_29 mi mz7 knz7 fez7 enz7 jz7 fr hh0 hiz7_0 hiz7_1 hiz7_2 hiz7_6 hiz7_7 hiz7_8 hjz7 c_8 c_9 c_10) (mz7 + 1) (knz7 + 1) mz7 r_20 (g_21 0) (g_21 1) (upd (upd (upd (upd qtz7 (4 * mz7).toNatClampNeg (g_21 0)) ((4 * mz7) + 1).toNatClampNeg (g_21 1)) ((4 * mz7) + 2).toNatClampNeg ((ga_22 1) 0)) ((4 * mz7) + 3).toNatClampNeg ((ga_22 1) 1)) (ga_22 0) (ga_22 1) (ga_22 2) _ _ _ (lf_g_flies_23 mi mz7 knz7 fez7 enz7 jz7 fr hh0 hiz7_0 hiz7_1 hiz7_2 hiz7_6 hiz7_7 hiz7_8 hjz7 c_8 c_9 c_10) (lf_g_flies_24 mi mz7 knz7 fez7 enz7 jz7 fr hh0 hiz7_0 hiz7_1 hiz7_2 hiz7_6 hiz7_7 hiz7_8 hjz7 c_8 c_9 c_10) (lf_g_flies_25 mi mz7 knz7 fez7 enz7 jz7 fr hh0 hiz7_0 hiz7_1 hiz7_2 hiz7_6 hiz7_7 hiz7_8 hjz7 c_8 c_9 c_10) (k_fr_t hiz7_3 c_9 (hiz7_0.1) c_8 (hh0.2) (hh6 p1 (c_2)) (if_pos (Int32.not_le.mp c_10)) ((if_neg c_28).symm) (by rw [← hh7]; exact c_27)) (k_fs_t hiz7_4 c_9 (hiz7_0.1) (lf_e_flies14_2 mi mz7 knz7 fez7 enz7 jz7 fr hh0 hiz7_0 hiz7_1 hiz7_2 hiz7_6 hiz7_7 hiz7_8 hjz7 c_8 c_9 c_10) (k_fr_m hiz7_3 c_9) ((if_neg c_28).symm) c_27 rfl rfl) (c_26) (lf_g_flies_26 mi mz7 knz7 fez7 enz7 jz7 fr hh0 hiz7_0 hiz7_1 hiz7_2 hiz7_6 hiz7_7 hiz7_8 hjz7 c_8 c_9 c_10) (lf_g_flies_27 mi mz7 knz7 fez7 enz7 jz7 fr r_20 hh0 hiz7_0 hiz7_1 hiz7_2 hiz7_6 hiz7_7 hiz7_8 hjz7 c_8 c_9 c_10 c_28) (lf_g_flies_28 mi mz7 knz7 fez7 enz7 jz7 fr hh0 hiz7_0 hiz7_1 hiz7_2 hiz7_6 hiz7_7 hiz7_8 hjz7 c_8 c_9 c_10) rfl (hP.sub [2, 3, 4, 0, 5, 6, 7, 1] rfl) (hD.sub [2, 3, 4, 0, 5, 6, 7, 1] (by decide +kernel) rfl) hS (lv_sub hl [0, 1, 2, 3, 4, 5, 6, 7] rfl)
                · refine lv_iload hx₀ hb dX12_flies_237 (lv_at hl 0 rfl) ?_
                  refine lv_iconst (v := 1) hx₀ hb dX12_flies_239 (by decide +kernel) ?_
                  refine lv_iadd hx₀ hb dX12_flies_240 ?_
                  refine lv_goto (tgt := 246) hx₀ hb dX12_flies_241 (by decide) ?_
                  refine va_put (D := (dC, dI)) (ci := 11) (v := .int (mz7 + 1)) (ty := .int) (C := RX12) (T := TX12) (N := 30) hx₀ hb hts inlX12 tyX12 tyX12_ok nmX12 hown hK hP hD hS 1 rfl rfl 18 (by decide) (hts (.fieldLink RX12 193 "BittenStickModel" "fell" "I") wd_542) (fun _ h9 => h9) rfl (by decide +kernel) rfl rfl (Nat.le_of_ble_eq_true rfl) dX12_flies_246 ?_
                  clear hP hD hS
                  intro H locs hP hD hS
                  replace hP := k_w2 (wt := [(kAI vTo cI 96 (upd (upd (upd (upd qtz7 (4 * mz7).toNatClampNeg (g_21 0)) ((4 * mz7) + 1).toNatClampNeg (g_21 1)) ((4 * mz7) + 2).toNatClampNeg ((ga_22 1) 0)) ((4 * mz7) + 3).toNatClampNeg ((ga_22 1) 1))), (kX12 hm vFo vSi vIt vMo la vBy vTy mi vMi pn vPs gn vGs fn vFt le vTo (knz7 + 1) (mz7 + 1) r_20 ca (g_21 0) (g_21 1) vPr vSt vFn sn vSg vAl dr), (kAI vMi cI 24 qMi), (kAI vPs cI 32 qPs), (kAI vGs cI 16 qGs), (kAI vPr cI 2 (ga_22 0)), (kAI vSt cI 2 (ga_22 1)), (kAI vFn cI 2 (ga_22 2))]) hP hD rfl
                  replace hD := hP.2
                  replace hP := hP.1
                  refine lv_iinc (v := mz7 + 1) (lv' := [(7, .int (mz7 + 1)), (0, .ref hm), (1, .int p1), (2, .int le1), (3, .int ri1), (4, .int h1), (5, .int fr), (6, .int th)]) hx₀ hb dX12_flies_249 hl (k := 0) rfl rfl (by decide) rfl (fun ls hl => ?_)
                  refine lv_goto (tgt := 116) hx₀ hb dX12_flies_252 (by decide) ?_
                  exact ihz7 _ (lf_g_flies_29 mi mz7 knz7 fez7 enz7 jz7 fr hh0 hiz7_0 hiz7_1 hiz7_2 hiz7_6 hiz7_7 hiz7_8 hjz7 c_8 c_9 c_10) (mz7 + 1) (knz7 + 1) (mz7 + 1) r_20 (g_21 0) (g_21 1) (upd (upd (upd (upd qtz7 (4 * mz7).toNatClampNeg (g_21 0)) ((4 * mz7) + 1).toNatClampNeg (g_21 1)) ((4 * mz7) + 2).toNatClampNeg ((ga_22 1) 0)) ((4 * mz7) + 3).toNatClampNeg ((ga_22 1) 1)) (ga_22 0) (ga_22 1) (ga_22 2) _ _ _ (lf_g_flies_23 mi mz7 knz7 fez7 enz7 jz7 fr hh0 hiz7_0 hiz7_1 hiz7_2 hiz7_6 hiz7_7 hiz7_8 hjz7 c_8 c_9 c_10) (lf_g_flies_24 mi mz7 knz7 fez7 enz7 jz7 fr hh0 hiz7_0 hiz7_1 hiz7_2 hiz7_6 hiz7_7 hiz7_8 hjz7 c_8 c_9 c_10) (lf_g_flies_30 mi mz7 knz7 fez7 enz7 jz7 fr hh0 hiz7_0 hiz7_1 hiz7_2 hiz7_6 hiz7_7 hiz7_8 hjz7 c_8 c_9 c_10) (k_fr_t hiz7_3 c_9 (hiz7_0.1) c_8 (hh0.2) (hh6 p1 (c_2)) (if_pos (Int32.not_le.mp c_10)) ((if_pos c_28).symm) (by rw [← hh7]; exact c_27)) (k_fs_t hiz7_4 c_9 (hiz7_0.1) (lf_e_flies14_2 mi mz7 knz7 fez7 enz7 jz7 fr hh0 hiz7_0 hiz7_1 hiz7_2 hiz7_6 hiz7_7 hiz7_8 hjz7 c_8 c_9 c_10) (k_fr_m hiz7_3 c_9) ((if_pos c_28).symm) c_27 rfl rfl) (c_26) (lf_g_flies_31 mi mz7 knz7 fez7 enz7 jz7 fr hh0 hiz7_0 hiz7_1 hiz7_2 hiz7_6 hiz7_7 hiz7_8 hjz7 c_8 c_9 c_10) (show r_20 = 0 ∨ (knz7 + 1) = 0 ∨ (mz7 + 1) ≤ 23 from (Or.inl (c_28))) (lf_g_flies_28 mi mz7 knz7 fez7 enz7 jz7 fr hh0 hiz7_0 hiz7_1 hiz7_2 hiz7_6 hiz7_7 hiz7_8 hjz7 c_8 c_9 c_10) rfl (hP.sub [2, 3, 4, 0, 5, 6, 7, 1] rfl) (hD.sub [2, 3, 4, 0, 5, 6, 7, 1] (by decide +kernel) rfl) hS (lv_sub hl [0, 1, 2, 3, 4, 5, 6, 7] rfl)
      rw [if_neg c_6] at hw
      refine k_topi (v := 0) hw ?_
      refine lv_if_ne (tgt := 40) hx₀ hb dX12_flies_36 (by decide) (fun c9 => absurd (by decide +kernel) c9) (fun _ => ?_)
      obtain ⟨hP9, hD9⟩ := k_c2 (wc := [(kX12 hm vFo vSi vIt vMo la vBy vTy mi vMi pn vPs gn vGs fn vFt le vTo 0 0 1 ca an co vPr vSt vFn sn vSg vAl dr), (kAI vMi cI 24 qMi), (kAI vPs cI 32 qPs), (kAI vGs cI 16 qGs), (kAI vTo cI 96 qTo), (kAI vPr cI 2 qPr), (kAI vSt cI 2 qSt), (kAI vFn cI 2 qFn)]) hP hD [7, 0, 1, 2, 3, 4, 5, 6] (by decide +kernel) rfl
      exact W.vret hx₀ hb hr (fun t₀ ht hW => ⟨⟨(k_fn [(0 : Int32), (0 : Int32), (1 : Int32), an, co], k_fa [qTo, qPr, qSt, qFn], k_fl [], k_fL [], k_fp []), rfl, ⟨hh3, (show 0 ≤ (0 : Int32) ∧ (0 : Int32) ≤ 24 from ⟨(by decide), (by decide)⟩), (show (1 : Int32) = 0 ∨ (0 : Int32) = 0 ∨ (0 : Int32) ≤ 23 from (Or.inr (Or.inl (rfl)))), (show 0 ≤ (0 : Int32) ∧ (0 : Int32) ≤ 24 from ⟨(by decide), (by decide)⟩), (k_fd_n (show ¬ ((0 ≤ p1 ∧ p1 < pn) ∧ (0 ≤ le1 ∧ le1 < gn) ∧ 0 ≤ ri1 ∧ ri1 < gn) from (fun z => c_6 (And.intro z.2.2.1 z.2.2.2)))), ((fun q => absurd q (show ¬ ((0 ≤ p1 ∧ p1 < pn) ∧ (0 ≤ le1 ∧ le1 < gn) ∧ 0 ≤ ri1 ∧ ri1 < gn) from (fun z => c_6 (And.intro z.2.2.1 z.2.2.2)))))⟩, by rw [ht]; exact hP9, va_K.moved hW.alike hK, hD9⟩, hS.F ht⟩) hS.2.2 dX12_flies_39
    rw [if_neg c_4] at hw
    refine k_topi (v := 0) hw ?_
    refine lv_if_eq (tgt := 39) hx₀ hb dX12_flies_28 (by decide) (fun _ => ?_) (fun c9 => absurd (by decide +kernel) c9)
    obtain ⟨hP9, hD9⟩ := k_c2 (wc := [(kX12 hm vFo vSi vIt vMo la vBy vTy mi vMi pn vPs gn vGs fn vFt le vTo 0 0 1 ca an co vPr vSt vFn sn vSg vAl dr), (kAI vMi cI 24 qMi), (kAI vPs cI 32 qPs), (kAI vGs cI 16 qGs), (kAI vTo cI 96 qTo), (kAI vPr cI 2 qPr), (kAI vSt cI 2 qSt), (kAI vFn cI 2 qFn)]) hP hD [7, 0, 1, 2, 3, 4, 5, 6] (by decide +kernel) rfl
    exact W.vret hx₀ hb hr (fun t₀ ht hW => ⟨⟨(k_fn [(0 : Int32), (0 : Int32), (1 : Int32), an, co], k_fa [qTo, qPr, qSt, qFn], k_fl [], k_fL [], k_fp []), rfl, ⟨hh3, (show 0 ≤ (0 : Int32) ∧ (0 : Int32) ≤ 24 from ⟨(by decide), (by decide)⟩), (show (1 : Int32) = 0 ∨ (0 : Int32) = 0 ∨ (0 : Int32) ≤ 23 from (Or.inr (Or.inl (rfl)))), (show 0 ≤ (0 : Int32) ∧ (0 : Int32) ≤ 24 from ⟨(by decide), (by decide)⟩), (k_fd_n (show ¬ ((0 ≤ p1 ∧ p1 < pn) ∧ (0 ≤ le1 ∧ le1 < gn) ∧ 0 ≤ ri1 ∧ ri1 < gn) from (fun z => c_4 z.2.1))), ((fun q => absurd q (show ¬ ((0 ≤ p1 ∧ p1 < pn) ∧ (0 ≤ le1 ∧ le1 < gn) ∧ 0 ≤ ri1 ∧ ri1 < gn) from (fun z => c_4 z.2.1))))⟩, by rw [ht]; exact hP9, va_K.moved hW.alike hK, hD9⟩, hS.F ht⟩) hS.2.2 dX12_flies_39
  rw [if_neg c_2] at hw
  refine k_topi (v := 0) hw ?_
  refine lv_if_eq (tgt := 39) hx₀ hb dX12_flies_20 (by decide) (fun _ => ?_) (fun c9 => absurd (by decide +kernel) c9)
  obtain ⟨hP9, hD9⟩ := k_c2 (wc := [(kX12 hm vFo vSi vIt vMo la vBy vTy mi vMi pn vPs gn vGs fn vFt le vTo 0 0 1 ca an co vPr vSt vFn sn vSg vAl dr), (kAI vMi cI 24 qMi), (kAI vPs cI 32 qPs), (kAI vGs cI 16 qGs), (kAI vTo cI 96 qTo), (kAI vPr cI 2 qPr), (kAI vSt cI 2 qSt), (kAI vFn cI 2 qFn)]) hP hD [7, 0, 1, 2, 3, 4, 5, 6] (by decide +kernel) rfl
  exact W.vret hx₀ hb hr (fun t₀ ht hW => ⟨⟨(k_fn [(0 : Int32), (0 : Int32), (1 : Int32), an, co], k_fa [qTo, qPr, qSt, qFn], k_fl [], k_fL [], k_fp []), rfl, ⟨hh3, (show 0 ≤ (0 : Int32) ∧ (0 : Int32) ≤ 24 from ⟨(by decide), (by decide)⟩), (show (1 : Int32) = 0 ∨ (0 : Int32) = 0 ∨ (0 : Int32) ≤ 23 from (Or.inr (Or.inl (rfl)))), (show 0 ≤ (0 : Int32) ∧ (0 : Int32) ≤ 24 from ⟨(by decide), (by decide)⟩), (k_fd_n (show ¬ ((0 ≤ p1 ∧ p1 < pn) ∧ (0 ≤ le1 ∧ le1 < gn) ∧ 0 ≤ ri1 ∧ ri1 < gn) from (fun z => c_2 z.1))), ((fun q => absurd q (show ¬ ((0 ≤ p1 ∧ p1 < pn) ∧ (0 ≤ le1 ∧ le1 < gn) ∧ 0 ≤ ri1 ∧ ri1 < gn) from (fun z => c_2 z.1))))⟩, by rw [ht]; exact hP9, va_K.moved hW.alike hK, hD9⟩, hS.F ht⟩) hS.2.2 dX12_flies_39
set_option maxHeartbeats 4000000 in
set_option maxRecDepth 100000 in
theorem e_fliesTold14 (l : Launch) (dC : Nat → ClassId) (dI : Nat → Nat → Nat) (cI cJ cQ : ClassId) (sz : Nat) (hm : Nat) (f1 : Int32) (vFo : Nat) (vSi : Nat) (vIt : Nat) (vMo : Nat) (la : Int32) (vBy : Nat) (vTy : Nat) (mi : Int32) (vMi : Nat) (pn : Int32) (vPs : Nat) (gn : Int32) (vGs : Nat) (fn : Int32) (vFt : Nat) (le : Int32) (vTo : Nat) (kn : Int32) (fe : Int32) (en : Int32) (ca : Int32) (an : Int32) (co : Int32) (vPr : Nat) (vSt : Nat) (vFn : Nat) (sn : Int32) (vSg : Nat) (vAl : Nat) (dr : Int32) (qMi : Nat → Int32) (qPs : Nat → Int32) (qGs : Nat → Int32) (qTo : Nat → Int32) (qPr : Nat → Int32) (qSt : Nat → Int32) (qFn : Nat → Int32) (qFt : Nat → Int32) (hh0 : 0 ≤ mi ∧ mi ≤ 24) (hh1 : 0 ≤ pn ∧ pn ≤ 8) (hh2 : 0 ≤ gn ∧ gn ≤ 8) (hh3 : k_bd 2 0 7 qPr) (hh4 : 0 ≤ f1 ∧ f1 ≤ 7) (hh5 : k_tm pn qPs) (hh6 : ca = 16777215) (hh7 : k_bd 32 0 9 qFt) : Met l yX12_fliesTold (kW yX12_fliesTold cX12_fliesTold 2 none) { frames := 3, cells := 0, slots := 0, locals := 78 } (kPre dC dI cI cJ cQ sz [.ref hm, .int f1] [(kX12 hm vFo vSi vIt vMo la vBy vTy mi vMi pn vPs gn vGs fn vFt le vTo kn fe en ca an co vPr vSt vFn sn vSg vAl dr), (kAI vMi cI 24 qMi), (kAI vPs cI 32 qPs), (kAI vGs cI 16 qGs), (kAI vTo cI 96 qTo), (kAI vPr cI 2 qPr), (kAI vSt cI 2 qSt), (kAI vFn cI 2 qFn), (kAI vFt cI 32 qFt)]) (va_Qv (fun (u : kS) => (k_bd 2 0 7 (u.2.1 1)) ∧ (0 ≤ (u.1 1) ∧ (u.1 1) ≤ 24) ∧ ((u.1 2) = 0 ∨ (u.1 0) = 0 ∨ (u.1 1) ≤ 23) ∧ (0 ≤ (u.1 0) ∧ (u.1 0) ≤ 24) ∧ (k_fd ((0 ≤ (kP0 qFt f1) ∧ (kP0 qFt f1) < pn) ∧ (0 ≤ (kP1 qFt f1) ∧ (kP1 qFt f1) < gn) ∧ 0 ≤ (kP2 qFt f1) ∧ (kP2 qFt f1) < gn) (k_done (kM qMi) (kCt (kM qMi) (kP3 qPs (kP0 qFt f1)) (kfu mi 0) 0 ((kG0 qGs (kP1 qFt f1), kG1 qGs (kP1 qFt f1), kG0 qGs (kP1 qFt f1), 0), (kG0 qGs (kP2 qFt f1), kG1 qGs (kP2 qFt f1), kG0 qGs (kP2 qFt f1), 0))) le (kP0 qPs (kP0 qFt f1)) (kP1 qPs (kP0 qFt f1)) (5 * (kP2 qPs (kP0 qFt f1))) (fun x9 => if x9 < (24 : Int32) then (kP3 qFt f1) else (0 : Int32)) mi (u.1 0) (u.1 1) (u.1 2) (u.2.1 0)) (u.1 0) (u.1 1) (u.1 2)) ∧ (k_im ((0 ≤ (kP0 qFt f1) ∧ (kP0 qFt f1) < pn) ∧ (0 ≤ (kP1 qFt f1) ∧ (kP1 qFt f1) < gn) ∧ 0 ≤ (kP2 qFt f1) ∧ (kP2 qFt f1) < gn) (k_dst (kM qMi) (kP3 qPs (kP0 qFt f1)) ((kG0 qGs (kP1 qFt f1), kG1 qGs (kP1 qFt f1), kG0 qGs (kP1 qFt f1), 0), (kG0 qGs (kP2 qFt f1), kG1 qGs (kP2 qFt f1), kG0 qGs (kP2 qFt f1), 0)) mi (u.1 0) (u.1 1) (u.2.1 0)))) (fun (u : kS) t₀ => kB dC dI cI cJ cQ (va_A [(kX12 hm vFo vSi vIt vMo la vBy vTy mi vMi pn vPs gn vGs fn vFt le vTo kn fe en ca an co vPr vSt vFn sn vSg vAl dr), (kAI vMi cI 24 qMi), (kAI vPs cI 32 qPs), (kAI vGs cI 16 qGs), (kAI vTo cI 96 qTo), (kAI vPr cI 2 qPr), (kAI vSt cI 2 qSt), (kAI vFn cI 2 qFn), (kAI vFt cI 32 qFt)] sz) [(kX12 hm vFo vSi vIt vMo la vBy vTy mi vMi pn vPs gn vGs fn vFt le vTo (u.1 0) (u.1 1) (u.1 2) ca (u.1 3) (u.1 4) vPr vSt vFn sn vSg vAl dr), (kAI vMi cI 24 qMi), (kAI vPs cI 32 qPs), (kAI vGs cI 16 qGs), (kAI vTo cI 96 (u.2.1 0)), (kAI vPr cI 2 (u.2.1 1)), (kAI vSt cI 2 (u.2.1 2)), (kAI vFn cI 2 (u.2.1 3)), (kAI vFt cI 32 qFt)] t₀) (va_A [(kX12 hm vFo vSi vIt vMo la vBy vTy mi vMi pn vPs gn vGs fn vFt le vTo kn fe en ca an co vPr vSt vFn sn vSg vAl dr), (kAI vMi cI 24 qMi), (kAI vPs cI 32 qPs), (kAI vGs cI 16 qGs), (kAI vTo cI 96 qTo), (kAI vPr cI 2 qPr), (kAI vSt cI 2 qSt), (kAI vFn cI 2 qFn), (kAI vFt cI 32 qFt)] sz)) 0 0 (va_A [(kX12 hm vFo vSi vIt vMo la vBy vTy mi vMi pn vPs gn vGs fn vFt le vTo kn fe en ca an co vPr vSt vFn sn vSg vAl dr), (kAI vMi cI 24 qMi), (kAI vPs cI 32 qPs), (kAI vGs cI 16 qGs), (kAI vTo cI 96 qTo), (kAI vPr cI 2 qPr), (kAI vSt cI 2 qSt), (kAI vFn cI 2 qFn), (kAI vFt cI 32 qFt)] sz) := by
  refine Met.ofW (cc := cX12_fliesTold) (maxL := 2) (ret := none) (by decide) rfl ?_
  intro p₀ e₀ s₀ m₀ args below meth c₀ s₁ B hml hv₀
  obtain ⟨rfl, hsz, hP, hK, hD0, hN⟩ := hv₀
  have hx₀ := B.exec
  have hb := B.bytes
  have hr := B.returns
  have hts := atoms_spec (ws := (kW yX12_fliesTold cX12_fliesTold 2 none)) B.pre
  have hts := fun w h => hts w (List.mem_cons_of_mem _ h)
  have hown : s₀.vm.findClass RX12 = some m₀.cls := findClass_of_methodNamed B.named
  have hlocks := B.notSynchronized
  subst hsz
  have hD := hD0.self (sz := s₀.heap.size)
  generalize hAe : va_A [(kX12 hm vFo vSi vIt vMo la vBy vTy mi vMi pn vPs gn vGs fn vFt le vTo kn fe en ca an co vPr vSt vFn sn vSg vAl dr), (kAI vMi cI 24 qMi), (kAI vPs cI 32 qPs), (kAI vGs cI 16 qGs), (kAI vTo cI 96 qTo), (kAI vPr cI 2 qPr), (kAI vSt cI 2 qSt), (kAI vFn cI 2 qFn), (kAI vFt cI 32 qFt)] s₀.heap.size = A at hD ⊢
  have hA : ∀ q : Nat, s₀.heap.size ≤ q → A q := fun q h => by rw [← hAe]; exact Or.inr h
  have hS : va_S A s₀.heap s₀.heap [] := va_S.rf
  have hP : va_P (dC, dI) vwCl [(kX12 hm vFo vSi vIt vMo la vBy vTy mi vMi pn vPs gn vGs fn vFt le vTo kn fe en ca an co vPr vSt vFn sn vSg vAl dr), (kAI vMi cI 24 qMi), (kAI vPs cI 32 qPs), (kAI vGs cI 16 qGs), (kAI vTo cI 96 qTo), (kAI vPr cI 2 qPr), (kAI vSt cI 2 qSt), (kAI vFn cI 2 qFn), (kAI vFt cI 32 qFt)] s₀.heap := hP
  have hl := lv_entry ([.ref hm, .int f1]) (n := 2) (Nat.le_of_ble_eq_true rfl)
  rw [lg_entry_eq]
  generalize (lg_sl ([.ref hm, .int f1]) ++ List.replicate (2 - (lg_sl ([.ref hm, .int f1])).length) Slot.unset).toArray = ls at hl ⊢
  have hl : lv_has ls 2 [(0, .ref hm), (1, .int f1)] := hl
  obtain ⟨H, hH⟩ : ∃ z : Heap, z = s₀.heap := ⟨_, rfl⟩
  rw [← hH] at hP
  have hS : va_S A s₀.heap H [] := by rw [hH]; exact hS
  refine k_heap hH ?_
  have hD : va_D A [(kX12 hm vFo vSi vIt vMo la vBy vTy mi vMi pn vPs gn vGs fn vFt le vTo kn fe en ca an co vPr vSt vFn sn vSg vAl dr), (kAI vMi cI 24 qMi), (kAI vPs cI 32 qPs), (kAI vGs cI 16 qGs), (kAI vTo cI 96 qTo), (kAI vPr cI 2 qPr), (kAI vSt cI 2 qSt), (kAI vFn cI 2 qFn), (kAI vFt cI 32 qFt)] := hD
  obtain ⟨locs, hlo⟩ : ∃ z : List Loc, z = [] := ⟨_, rfl⟩
  rw [← hlo] at hS ⊢
  clear hlo hH hAe hD0
  refine lv_aload_n hx₀ hb dX12_fliesTold_0 rfl (lv_at hl 0 rfl) ?_
  refine lv_aload_n hx₀ hb dX12_fliesTold_1 rfl (lv_at hl 0 rfl) ?_
  refine va_get (D := (dC, dI)) (ci := 11) (v := .ref vFt) (C := RX12) (T := TX12) (N := 30) hx₀ hb hts inlX12 hown hK hP 0 rfl rfl 14 (by decide) (hts (.fieldLink RX12 37 "BittenStickModel" "flight" "[I") wd_124) (fun _ h9 => h9) rfl dX12_fliesTold_2 ?_
  refine lv_iconst (v := 4) hx₀ hb dX12_fliesTold_5 (by decide +kernel) ?_
  refine lv_iload_n hx₀ hb dX12_fliesTold_6 rfl (lv_at hl 1 rfl) ?_
  refine lv_imul hx₀ hb dX12_fliesTold_7 ?_
  refine va_iald hx₀ hb hK hP 8 0 rfl rfl (vp_in_iff.mpr (lf_g_fliesTold_1 f1 hh4)) dX12_fliesTold_8 ?_
  refine k_topi (v := kP0 qFt f1) rfl ?_
  refine lv_aload_n hx₀ hb dX12_fliesTold_9 rfl (lv_at hl 0 rfl) ?_
  refine va_get (D := (dC, dI)) (ci := 11) (v := .ref vFt) (C := RX12) (T := TX12) (N := 30) hx₀ hb hts inlX12 hown hK hP 0 rfl rfl 14 (by decide) (hts (.fieldLink RX12 37 "BittenStickModel" "flight" "[I") wd_124) (fun _ h9 => h9) rfl dX12_fliesTold_10 ?_
  refine lv_iconst (v := 4) hx₀ hb dX12_fliesTold_13 (by decide +kernel) ?_
  refine lv_iload_n hx₀ hb dX12_fliesTold_14 rfl (lv_at hl 1 rfl) ?_
  refine lv_imul hx₀ hb dX12_fliesTold_15 ?_
  refine lv_iconst (v := 1) hx₀ hb dX12_fliesTold_16 (by decide +kernel) ?_
  refine lv_iadd hx₀ hb dX12_fliesTold_17 ?_
  refine va_iald hx₀ hb hK hP 8 0 rfl rfl (vp_in_iff.mpr (lf_g_fliesTold_2 f1 hh4)) dX12_fliesTold_18 ?_
  refine k_topi (v := kP1 qFt f1) rfl ?_
  refine lv_aload_n hx₀ hb dX12_fliesTold_19 rfl (lv_at hl 0 rfl) ?_
  refine va_get (D := (dC, dI)) (ci := 11) (v := .ref vFt) (C := RX12) (T := TX12) (N := 30) hx₀ hb hts inlX12 hown hK hP 0 rfl rfl 14 (by decide) (hts (.fieldLink RX12 37 "BittenStickModel" "flight" "[I") wd_124) (fun _ h9 => h9) rfl dX12_fliesTold_20 ?_
  refine lv_iconst (v := 4) hx₀ hb dX12_fliesTold_23 (by decide +kernel) ?_
  refine lv_iload_n hx₀ hb dX12_fliesTold_24 rfl (lv_at hl 1 rfl) ?_
  refine lv_imul hx₀ hb dX12_fliesTold_25 ?_
  refine lv_iconst (v := 2) hx₀ hb dX12_fliesTold_26 (by decide +kernel) ?_
  refine lv_iadd hx₀ hb dX12_fliesTold_27 ?_
  refine va_iald hx₀ hb hK hP 8 0 rfl rfl (vp_in_iff.mpr (lf_g_goes_3 f1 hh4)) dX12_fliesTold_28 ?_
  refine k_topi (v := kP2 qFt f1) rfl ?_
  refine lv_aload_n hx₀ hb dX12_fliesTold_29 rfl (lv_at hl 0 rfl) ?_
  refine va_get (D := (dC, dI)) (ci := 11) (v := .ref vFt) (C := RX12) (T := TX12) (N := 30) hx₀ hb hts inlX12 hown hK hP 0 rfl rfl 14 (by decide) (hts (.fieldLink RX12 37 "BittenStickModel" "flight" "[I") wd_124) (fun _ h9 => h9) rfl dX12_fliesTold_30 ?_
  refine lv_iconst (v := 4) hx₀ hb dX12_fliesTold_33 (by decide +kernel) ?_
  refine lv_iload_n hx₀ hb dX12_fliesTold_34 rfl (lv_at hl 1 rfl) ?_
  refine lv_imul hx₀ hb dX12_fliesTold_35 ?_
  refine lv_iconst (v := 3) hx₀ hb dX12_fliesTold_36 (by decide +kernel) ?_
  refine lv_iadd hx₀ hb dX12_fliesTold_37 ?_
  refine va_iald hx₀ hb hK hP 8 0 rfl rfl (vp_in_iff.mpr (lf_g_goes_2 f1 hh4)) dX12_fliesTold_38 ?_
  refine k_topi (v := kP3 qFt f1) rfl ?_
  refine lv_bipush (v := 24) hx₀ hb dX12_fliesTold_39 (by decide +kernel) ?_
  refine lv_iconst (v := 0) hx₀ hb dX12_fliesTold_41 (by decide +kernel) ?_
  obtain ⟨hPc, hDc, hFc, hC⟩ := k_cw (wc := [(kX12 hm vFo vSi vIt vMo la vBy vTy mi vMi pn vPs gn vGs fn vFt le vTo kn fe en ca an co vPr vSt vFn sn vSg vAl dr), (kAI vMi cI 24 qMi), (kAI vPs cI 32 qPs), (kAI vGs cI 16 qGs), (kAI vTo cI 96 qTo), (kAI vPr cI 2 qPr), (kAI vSt cI 2 qSt), (kAI vFn cI 2 qFn)]) hP hD hS hA [0, 1, 2, 3, 4, 5, 6, 7] (by decide +kernel) rfl
  refine va_callv (va_runV (As := [.int (kP0 qFt f1), .int (kP1 qFt f1), .int (kP2 qFt f1), .int (kP3 qFt f1), .int 24, .int 0]) (rest := []) ⟨hx₀, hb, hml, hown, hts⟩ (e_flies14 l dC dI cI cJ cQ H.size hm (kP0 qFt f1) (kP1 qFt f1) (kP2 qFt f1) (kP3 qFt f1) 24 0 vFo vSi vIt vMo la vBy vTy mi vMi pn vPs gn vGs fn vFt le vTo kn fe en ca an co vPr vSt vFn sn vSg vAl dr qMi qPs qGs qTo qPr qSt qFn (hh0) (hh1) (hh2) (hh3) (k_bdP3 hh7 (hh4)) (show 0 ≤ (0 : Int32) ∧ (0 : Int32) ≤ 100 from ⟨(by decide), (by decide)⟩) (hh5) (hh6)) (cwV 6 hts (kGV wd_540 wd_537 wd_538 wd_539 wd_5) rfl rfl rfl (by decide +kernel) ⟨Nat.le_of_ble_eq_true rfl, Nat.le_of_ble_eq_true rfl⟩) (k_preV11 (q0 := 0) hK hPc hDc hN rfl) rfl rfl hl.1 rfl (lv_room (Nat.le_of_ble_eq_true rfl)) dX12_fliesTold_42 ⟨by decide +kernel, by decide +kernel⟩) hS (fun q _ h => hFc q h) hFc (fun u₀ t₀ H1 locs ht hvm hw hB hz1 hk1 hS => ?_)
  obtain ⟨g_2, ga_3, gl_4, gb_5, gp_6⟩ := u₀
  obtain ⟨hP1, hK1, hD1⟩ := hB
  rw [ht] at hP1
  have hJ := k_jn (wr := [(kAI vFt cI 32 qFt)]) (wt := [(kAI vFt cI 32 qFt), (kX12 hm vFo vSi vIt vMo la vBy vTy mi vMi pn vPs gn vGs fn vFt le vTo (g_2 0) (g_2 1) (g_2 2) ca (g_2 3) (g_2 4) vPr vSt vFn sn vSg vAl dr), (kAI vMi cI 24 qMi), (kAI vPs cI 32 qPs), (kAI vGs cI 16 qGs), (kAI vTo cI 96 (ga_3 0)), (kAI vPr cI 2 (ga_3 1)), (kAI vSt cI 2 (ga_3 2)), (kAI vFn cI 2 (ga_3 3))]) hP hD hC [8] rfl (by decide +kernel) (by decide +kernel) hk1 hFc hP1 hD1 rfl
  clear hP hD hPc hDc hFc hC hP1 hD1 hK1 hz1 hk1 hvm ht
  obtain ⟨hP, hD⟩ := hJ
  generalize H1 = H at hP hS ⊢
  try dsimp only at hw
  obtain ⟨c_7, c_8, c_9, c_10, c_11, c_12⟩ := hw
  obtain ⟨hP9, hD9⟩ := k_c2 (wc := [(kX12 hm vFo vSi vIt vMo la vBy vTy mi vMi pn vPs gn vGs fn vFt le vTo (g_2 0) (g_2 1) (g_2 2) ca (g_2 3) (g_2 4) vPr vSt vFn sn vSg vAl dr), (kAI vMi cI 24 qMi), (kAI vPs cI 32 qPs), (kAI vGs cI 16 qGs), (kAI vTo cI 96 (ga_3 0)), (kAI vPr cI 2 (ga_3 1)), (kAI vSt cI 2 (ga_3 2)), (kAI vFn cI 2 (ga_3 3)), (kAI vFt cI 32 qFt)]) hP hD [1, 2, 3, 4, 5, 6, 7, 8, 0] (by decide +kernel) rfl
  exact W.vret hx₀ hb hr (fun t₀ ht hW => ⟨⟨(k_fn [(g_2 0), (g_2 1), (g_2 2), (g_2 3), (g_2 4)], k_fa [ga_3 0, ga_3 1, ga_3 2, ga_3 3], k_fl [], k_fL [], k_fp []), rfl, ⟨c_7, c_8, c_9, c_10, c_11, c_12⟩, by rw [ht]; exact hP9, va_K.moved hW.alike hK, hD9⟩, hS.F ht⟩) hS.2.2 dX12_fliesTold_45
theorem lf_e_behindOf_1 (a0 : Int32) (a1 : Int32) (a2 : Int32) (a3 : Int32) (a4 : Int32) (a5 : Int32) (h0 : 0 ≤ a0 ∧ a0 ≤ 24) (h1 : 0 ≤ a1 ∧ a1 < a0) (h2 : 0 ≤ a2 ∧ a2 ≤ 3) (h3 : 0 ≤ (a3) ∧ (a3) ≤ 24) (h4 : (a4) = 0 ∨ (a5) = 0 ∨ (a3) ≤ 23) (h5 : 0 ≤ (a5) ∧ (a5) ≤ 24) (h6 : ¬ (a5) ≤ a1) : 0 ≤ ((4 * a1) + a2).toInt ∧ ((4 * a1) + a2).toInt < 96 := by
  first | rfl | assumption | decide | exact Or.inl rfl | (first | omega | (have hr0 := Int32.toInt_lt a0; have hs0 := Int32.le_toInt a0; have hr1 := Int32.toInt_lt a1; have hs1 := Int32.le_toInt a1; have hr2 := Int32.toInt_lt a2; have hs2 := Int32.le_toInt a2; have hr3 := Int32.toInt_lt a3; have hs3 := Int32.le_toInt a3; have hr4 := Int32.toInt_lt a4; have hs4 := Int32.le_toInt a4; have hr5 := Int32.toInt_lt a5; have hs5 := Int32.le_toInt a5; simp only [Int64.toInt_add, Int64.toInt_sub, Int32.toInt_add, Int32.toInt_sub, Int32.toInt_mul, Int64.le_iff_toInt_le, Int64.lt_iff_toInt_lt, Int32.le_iff_toInt_le, Int32.lt_iff_toInt_lt, ← Int32.toInt_inj, ← Int64.toInt_inj, Int32.toInt_toInt64, kc_0, kc_3, kc_4, kc_23, kc_24, kc_96] at *; (first | omega | ((try simp (disch := omega) only [k_bm64] at *); (try simp (disch := omega) only [k_bm] at *); (try simp (disch := omega) only [k_bm] at *); omega) | (simp only [Int.bmod] at *; omega))))
set_option maxHeartbeats 4000000 in
set_option maxRecDepth 100000 in
theorem e_behindOf (l : Launch) (dC : Nat → ClassId) (dI : Nat → Nat → Nat) (cI cJ cQ : ClassId) (sz : Nat) (hm : Nat) (f1 : Int32) (m1 : Int32) (w1 : Int32) (vFo : Nat) (vSi : Nat) (vIt : Nat) (vMo : Nat) (la : Int32) (vBy : Nat) (vTy : Nat) (mi : Int32) (vMi : Nat) (pn : Int32) (vPs : Nat) (gn : Int32) (vGs : Nat) (fn : Int32) (vFt : Nat) (le : Int32) (vTo : Nat) (kn : Int32) (fe : Int32) (en : Int32) (ca : Int32) (an : Int32) (co : Int32) (vPr : Nat) (vSt : Nat) (vFn : Nat) (sn : Int32) (vSg : Nat) (vAl : Nat) (dr : Int32) (qMi : Nat → Int32) (qPs : Nat → Int32) (qGs : Nat → Int32) (qTo : Nat → Int32) (qPr : Nat → Int32) (qSt : Nat → Int32) (qFn : Nat → Int32) (qFt : Nat → Int32) (hh0 : 0 ≤ mi ∧ mi ≤ 24) (hh1 : 0 ≤ pn ∧ pn ≤ 8) (hh2 : 0 ≤ gn ∧ gn ≤ 8) (hh3 : k_bd 2 0 7 qPr) (hh4 : 0 ≤ f1 ∧ f1 ≤ 7) (hh5 : 0 ≤ m1 ∧ m1 < mi) (hh6 : 0 ≤ w1 ∧ w1 ≤ 3) (hh7 : k_tm pn qPs) (hh8 : ca = 16777215) (hh9 : k_bd 32 0 9 qFt) : Met l yX12_behindOf (kW yX12_behindOf cX12_behindOf 4 (some .int)) { frames := 4, cells := 0, slots := 0, locals := 99 } (kPre dC dI cI cJ cQ sz [.ref hm, .int f1, .int m1, .int w1] [(kX12 hm vFo vSi vIt vMo la vBy vTy mi vMi pn vPs gn vGs fn vFt le vTo kn fe en ca an co vPr vSt vFn sn vSg vAl dr), (kAI vMi cI 24 qMi), (kAI vPs cI 32 qPs), (kAI vGs cI 16 qGs), (kAI vTo cI 96 qTo), (kAI vPr cI 2 qPr), (kAI vSt cI 2 qSt), (kAI vFn cI 2 qFn), (kAI vFt cI 32 qFt)]) (va_Qi (fun (r : Int32) (u : kS) => (r = kBR qMi qPs qGs mi pn gn le (kP0 qFt f1) (kP1 qFt f1) (kP2 qFt f1) (kP1 qPs (kP0 qFt f1)) (fun x8 => if x8 < (24 : Int32) then (kP3 qFt f1) else (0 : Int32)) m1 w1) ∧ (k_bd 2 0 7 (u.2.1 1)) ∧ (0 ≤ (u.1 1) ∧ (u.1 1) ≤ 24) ∧ ((u.1 2) = 0 ∨ (u.1 0) = 0 ∨ (u.1 1) ≤ 23) ∧ (0 ≤ (u.1 0) ∧ (u.1 0) ≤ 24)) (fun (u : kS) t₀ => kB dC dI cI cJ cQ (va_A [(kX12 hm vFo vSi vIt vMo la vBy vTy mi vMi pn vPs gn vGs fn vFt le vTo kn fe en ca an co vPr vSt vFn sn vSg vAl dr), (kAI vMi cI 24 qMi), (kAI vPs cI 32 qPs), (kAI vGs cI 16 qGs), (kAI vTo cI 96 qTo), (kAI vPr cI 2 qPr), (kAI vSt cI 2 qSt), (kAI vFn cI 2 qFn), (kAI vFt cI 32 qFt)] sz) [(kX12 hm vFo vSi vIt vMo la vBy vTy mi vMi pn vPs gn vGs fn vFt le vTo (u.1 0) (u.1 1) (u.1 2) ca (u.1 3) (u.1 4) vPr vSt vFn sn vSg vAl dr), (kAI vMi cI 24 qMi), (kAI vPs cI 32 qPs), (kAI vGs cI 16 qGs), (kAI vTo cI 96 (u.2.1 0)), (kAI vPr cI 2 (u.2.1 1)), (kAI vSt cI 2 (u.2.1 2)), (kAI vFn cI 2 (u.2.1 3)), (kAI vFt cI 32 qFt)] t₀) (va_A [(kX12 hm vFo vSi vIt vMo la vBy vTy mi vMi pn vPs gn vGs fn vFt le vTo kn fe en ca an co vPr vSt vFn sn vSg vAl dr), (kAI vMi cI 24 qMi), (kAI vPs cI 32 qPs), (kAI vGs cI 16 qGs), (kAI vTo cI 96 qTo), (kAI vPr cI 2 qPr), (kAI vSt cI 2 qSt), (kAI vFn cI 2 qFn), (kAI vFt cI 32 qFt)] sz)) 0 0 (va_A [(kX12 hm vFo vSi vIt vMo la vBy vTy mi vMi pn vPs gn vGs fn vFt le vTo kn fe en ca an co vPr vSt vFn sn vSg vAl dr), (kAI vMi cI 24 qMi), (kAI vPs cI 32 qPs), (kAI vGs cI 16 qGs), (kAI vTo cI 96 qTo), (kAI vPr cI 2 qPr), (kAI vSt cI 2 qSt), (kAI vFn cI 2 qFn), (kAI vFt cI 32 qFt)] sz) := by
  refine Met.ofW (cc := cX12_behindOf) (maxL := 4) (ret := (some .int)) (by decide) rfl ?_
  intro p₀ e₀ s₀ m₀ args below meth c₀ s₁ B hml hv₀
  obtain ⟨rfl, hsz, hP, hK, hD0, hN⟩ := hv₀
  have hx₀ := B.exec
  have hb := B.bytes
  have hr := B.returns
  have hts := atoms_spec (ws := (kW yX12_behindOf cX12_behindOf 4 (some .int))) B.pre
  have hts := fun w h => hts w (List.mem_cons_of_mem _ h)
  have hown : s₀.vm.findClass RX12 = some m₀.cls := findClass_of_methodNamed B.named
  have hlocks := B.notSynchronized
  subst hsz
  have hD := hD0.self (sz := s₀.heap.size)
  generalize hAe : va_A [(kX12 hm vFo vSi vIt vMo la vBy vTy mi vMi pn vPs gn vGs fn vFt le vTo kn fe en ca an co vPr vSt vFn sn vSg vAl dr), (kAI vMi cI 24 qMi), (kAI vPs cI 32 qPs), (kAI vGs cI 16 qGs), (kAI vTo cI 96 qTo), (kAI vPr cI 2 qPr), (kAI vSt cI 2 qSt), (kAI vFn cI 2 qFn), (kAI vFt cI 32 qFt)] s₀.heap.size = A at hD ⊢
  have hA : ∀ q : Nat, s₀.heap.size ≤ q → A q := fun q h => by rw [← hAe]; exact Or.inr h
  have hS : va_S A s₀.heap s₀.heap [] := va_S.rf
  have hP : va_P (dC, dI) vwCl [(kX12 hm vFo vSi vIt vMo la vBy vTy mi vMi pn vPs gn vGs fn vFt le vTo kn fe en ca an co vPr vSt vFn sn vSg vAl dr), (kAI vMi cI 24 qMi), (kAI vPs cI 32 qPs), (kAI vGs cI 16 qGs), (kAI vTo cI 96 qTo), (kAI vPr cI 2 qPr), (kAI vSt cI 2 qSt), (kAI vFn cI 2 qFn), (kAI vFt cI 32 qFt)] s₀.heap := hP
  have hl := lv_entry ([.ref hm, .int f1, .int m1, .int w1]) (n := 4) (Nat.le_of_ble_eq_true rfl)
  rw [lg_entry_eq]
  generalize (lg_sl ([.ref hm, .int f1, .int m1, .int w1]) ++ List.replicate (4 - (lg_sl ([.ref hm, .int f1, .int m1, .int w1])).length) Slot.unset).toArray = ls at hl ⊢
  have hl : lv_has ls 4 [(0, .ref hm), (1, .int f1), (2, .int m1), (3, .int w1)] := hl
  obtain ⟨H, hH⟩ : ∃ z : Heap, z = s₀.heap := ⟨_, rfl⟩
  rw [← hH] at hP
  have hS : va_S A s₀.heap H [] := by rw [hH]; exact hS
  refine k_heap hH ?_
  have hD : va_D A [(kX12 hm vFo vSi vIt vMo la vBy vTy mi vMi pn vPs gn vGs fn vFt le vTo kn fe en ca an co vPr vSt vFn sn vSg vAl dr), (kAI vMi cI 24 qMi), (kAI vPs cI 32 qPs), (kAI vGs cI 16 qGs), (kAI vTo cI 96 qTo), (kAI vPr cI 2 qPr), (kAI vSt cI 2 qSt), (kAI vFn cI 2 qFn), (kAI vFt cI 32 qFt)] := hD
  obtain ⟨locs, hlo⟩ : ∃ z : List Loc, z = [] := ⟨_, rfl⟩
  rw [← hlo] at hS ⊢
  clear hlo hH hAe hD0
  refine lv_aload_n hx₀ hb dX12_behindOf_0 rfl (lv_at hl 0 rfl) ?_
  refine lv_iload_n hx₀ hb dX12_behindOf_1 rfl (lv_at hl 1 rfl) ?_
  obtain ⟨hPc, hDc, hFc, hC⟩ := k_cw (wc := [(kX12 hm vFo vSi vIt vMo la vBy vTy mi vMi pn vPs gn vGs fn vFt le vTo kn fe en ca an co vPr vSt vFn sn vSg vAl dr), (kAI vMi cI 24 qMi), (kAI vPs cI 32 qPs), (kAI vGs cI 16 qGs), (kAI vTo cI 96 qTo), (kAI vPr cI 2 qPr), (kAI vSt cI 2 qSt), (kAI vFn cI 2 qFn), (kAI vFt cI 32 qFt)]) hP hD hS hA [0, 1, 2, 3, 4, 5, 6, 7, 8] (by decide +kernel) rfl
  refine va_callv (va_runV (As := [.int f1]) (rest := []) ⟨hx₀, hb, hml, hown, hts⟩ (e_fliesTold14 l dC dI cI cJ cQ H.size hm f1 vFo vSi vIt vMo la vBy vTy mi vMi pn vPs gn vGs fn vFt le vTo kn fe en ca an co vPr vSt vFn sn vSg vAl dr qMi qPs qGs qTo qPr qSt qFn qFt (hh0) (hh1) (hh2) (hh3) (hh4) (hh7) (hh8) (hh9)) (cwV 1 hts (kGV wd_536 wd_533 wd_534 wd_535 wd_5) rfl rfl rfl (by decide +kernel) ⟨Nat.le_of_ble_eq_true rfl, Nat.le_of_ble_eq_true rfl⟩) (k_preV11 (q0 := 0) hK hPc hDc hN rfl) rfl rfl hl.1 rfl (lv_room (Nat.le_of_ble_eq_true rfl)) dX12_behindOf_2 ⟨by decide +kernel, by decide +kernel⟩) hS (fun q _ h => hFc q h) hFc (fun u₀ t₀ H1 locs ht hvm hw hB hz1 hk1 hS => ?_)
  obtain ⟨g_2, ga_3, gl_4, gb_5, gp_6⟩ := u₀
  obtain ⟨hP1, hK1, hD1⟩ := hB
  rw [ht] at hP1
  have hJ := k_jn (wr := []) (wt := [(kX12 hm vFo vSi vIt vMo la vBy vTy mi vMi pn vPs gn vGs fn vFt le vTo (g_2 0) (g_2 1) (g_2 2) ca (g_2 3) (g_2 4) vPr vSt vFn sn vSg vAl dr), (kAI vMi cI 24 qMi), (kAI vPs cI 32 qPs), (kAI vGs cI 16 qGs), (kAI vTo cI 96 (ga_3 0)), (kAI vPr cI 2 (ga_3 1)), (kAI vSt cI 2 (ga_3 2)), (kAI vFn cI 2 (ga_3 3)), (kAI vFt cI 32 qFt)]) hP hD hC [] rfl (by decide +kernel) (by decide +kernel) hk1 hFc hP1 hD1 rfl
  clear hP hD hPc hDc hFc hC hP1 hD1 hK1 hz1 hk1 hvm ht
  obtain ⟨hP, hD⟩ := hJ
  generalize H1 = H at hP hS ⊢
  try dsimp only at hw
  obtain ⟨c_7, c_8, c_9, c_10, c_11, c_12⟩ := hw
  refine lv_iload_n hx₀ hb dX12_behindOf_5 rfl (lv_at hl 2 rfl) ?_
  refine lv_aload_n hx₀ hb dX12_behindOf_6 rfl (lv_at hl 0 rfl) ?_
  refine va_get (D := (dC, dI)) (ci := 11) (v := .int (g_2 0)) (C := RX12) (T := TX12) (N := 30) hx₀ hb hts inlX12 hown hK hP 0 rfl rfl 17 (by decide) (hts (.fieldLink RX12 190 "BittenStickModel" "known" "I") wd_541) (fun _ h9 => h9) rfl dX12_behindOf_7 ?_
  refine lv_icmp_ge (tgt := 26) hx₀ hb dX12_behindOf_10 (by decide) (fun c_13 => ?_) (fun c_13 => ?_)
  · refine lv_iconst (v := (-1)) hx₀ hb dX12_behindOf_26 (by decide +kernel) ?_
    obtain ⟨hP9, hD9⟩ := k_c2 (wc := [(kX12 hm vFo vSi vIt vMo la vBy vTy mi vMi pn vPs gn vGs fn vFt le vTo (g_2 0) (g_2 1) (g_2 2) ca (g_2 3) (g_2 4) vPr vSt vFn sn vSg vAl dr), (kAI vMi cI 24 qMi), (kAI vPs cI 32 qPs), (kAI vGs cI 16 qGs), (kAI vTo cI 96 (ga_3 0)), (kAI vPr cI 2 (ga_3 1)), (kAI vSt cI 2 (ga_3 2)), (kAI vFn cI 2 (ga_3 3)), (kAI vFt cI 32 qFt)]) hP hD [0, 1, 2, 3, 4, 5, 6, 7, 8] (by decide +kernel) rfl
    exact W.iret (v := (-1)) hx₀ hb hr (fun t₀ ht hW => ⟨⟨(-1), (k_fn [(g_2 0), (g_2 1), (g_2 2), (g_2 3), (g_2 4)], k_fa [ga_3 0, ga_3 1, ga_3 2, ga_3 3], k_fl [], k_fL [], k_fp []), rfl, ⟨(Eq.trans (if_neg (Int32.not_lt.mpr c_13)).symm (kBh_d c_11 c_12 (hh5.1) (hh5.2) (hh6))), c_7, c_8, c_9, c_10⟩, by rw [ht]; exact hP9, va_K.moved hW.alike hK, hD9⟩, hS.F ht⟩) hS.2.2 dX12_behindOf_27
  · refine lv_aload_n hx₀ hb dX12_behindOf_13 rfl (lv_at hl 0 rfl) ?_
    refine va_get (D := (dC, dI)) (ci := 11) (v := .ref vTo) (C := RX12) (T := TX12) (N := 30) hx₀ hb hts inlX12 hown hK hP 0 rfl rfl 16 (by decide) (hts (.fieldLink RX12 40 "BittenStickModel" "told" "[I") wd_125) (fun _ h9 => h9) rfl dX12_behindOf_14 ?_
    refine lv_iconst (v := 4) hx₀ hb dX12_behindOf_17 (by decide +kernel) ?_
    refine lv_iload_n hx₀ hb dX12_behindOf_18 rfl (lv_at hl 2 rfl) ?_
    refine lv_imul hx₀ hb dX12_behindOf_19 ?_
    refine lv_iload_n hx₀ hb dX12_behindOf_20 rfl (lv_at hl 3 rfl) ?_
    refine lv_iadd hx₀ hb dX12_behindOf_21 ?_
    refine va_iald hx₀ hb hK hP 4 0 rfl rfl (vp_in_iff.mpr (lf_e_behindOf_1 mi m1 w1 (g_2 1) (g_2 2) (g_2 0) hh0 hh5 hh6 c_8 c_9 c_10 c_13)) dX12_behindOf_22 ?_
    refine lv_goto (tgt := 27) hx₀ hb dX12_behindOf_23 (by decide) ?_
    obtain ⟨hP9, hD9⟩ := k_c2 (wc := [(kX12 hm vFo vSi vIt vMo la vBy vTy mi vMi pn vPs gn vGs fn vFt le vTo (g_2 0) (g_2 1) (g_2 2) ca (g_2 3) (g_2 4) vPr vSt vFn sn vSg vAl dr), (kAI vMi cI 24 qMi), (kAI vPs cI 32 qPs), (kAI vGs cI 16 qGs), (kAI vTo cI 96 (ga_3 0)), (kAI vPr cI 2 (ga_3 1)), (kAI vSt cI 2 (ga_3 2)), (kAI vFn cI 2 (ga_3 3)), (kAI vFt cI 32 qFt)]) hP hD [0, 1, 2, 3, 4, 5, 6, 7, 8] (by decide +kernel) rfl
    exact W.iret (v := (ga_3 0) ((4 * m1) + w1).toNatClampNeg) hx₀ hb hr (fun t₀ ht hW => ⟨⟨(ga_3 0) ((4 * m1) + w1).toNatClampNeg, (k_fn [(g_2 0), (g_2 1), (g_2 2), (g_2 3), (g_2 4)], k_fa [ga_3 0, ga_3 1, ga_3 2, ga_3 3], k_fl [], k_fL [], k_fp []), rfl, ⟨(Eq.trans (if_pos (Int32.not_le.mp c_13)).symm (kBh_d c_11 c_12 (hh5.1) (hh5.2) (hh6))), c_7, c_8, c_9, c_10⟩, by rw [ht]; exact hP9, va_K.moved hW.alike hK, hD9⟩, hS.F ht⟩) hS.2.2 dX12_behindOf_27
theorem lf_m_behind_1 (a0 : Int32) (a1 : Int32) (h0 : 0 ≤ (a0) ∧ (a0) ≤ 24) (h1 : (0 : Int64) ≤ a1.toInt64 ∧ a1.toInt64 ≤ (((a0) - 1).toInt64)) : 0 ≤ a1 ∧ a1 < (a0) := by
  first | rfl | assumption | decide | exact Or.inl rfl | (first | omega | (have hr0 := Int32.toInt_lt a0; have hs0 := Int32.le_toInt a0; have hr1 := Int32.toInt_lt a1; have hs1 := Int32.le_toInt a1; simp only [Int64.toInt_add, Int64.toInt_sub, Int32.toInt_add, Int32.toInt_sub, Int32.toInt_mul, Int64.le_iff_toInt_le, Int64.lt_iff_toInt_lt, Int32.le_iff_toInt_le, Int32.lt_iff_toInt_lt, ← Int32.toInt_inj, ← Int64.toInt_inj, Int32.toInt_toInt64, kc_0, kd_0, kc_1, kd_1, kc_24, kd_24] at *; (first | omega | ((try simp (disch := omega) only [k_bm64] at *); (try simp (disch := omega) only [k_bm] at *); (try simp (disch := omega) only [k_bm] at *); omega) | (simp only [Int.bmod] at *; omega))))
theorem lf_m_behind_2 (a0 : Int32) (a1 : Int32) (a2 : Int32) (a3 : Int32) (a4 : Int32) (h0 : 0 ≤ a0 ∧ a0 ≤ 8) (h1 : 0 ≤ (a1) ∧ (a1) ≤ 24) (h2 : 0 ≤ a2 ∧ a2 < a0) (h3 : (0 : Int64) ≤ a3.toInt64 ∧ a3.toInt64 ≤ (((a1) - 1).toInt64)) (h4 : (0 : Int64) ≤ a4.toInt64 ∧ a4.toInt64 ≤ (3 : Int64)) : (0 ≤ a2 ∧ a2 < a0) ∧ (0 ≤ a3 ∧ a3 < (a1)) ∧ 0 ≤ a4 ∧ a4 ≤ 3 := by
  first | rfl | assumption | decide | exact Or.inl rfl | (first | omega | (have hr0 := Int32.toInt_lt a0; have hs0 := Int32.le_toInt a0; have hr1 := Int32.toInt_lt a1; have hs1 := Int32.le_toInt a1; have hr2 := Int32.toInt_lt a2; have hs2 := Int32.le_toInt a2; have hr3 := Int32.toInt_lt a3; have hs3 := Int32.le_toInt a3; have hr4 := Int32.toInt_lt a4; have hs4 := Int32.le_toInt a4; simp only [Int64.toInt_add, Int64.toInt_sub, Int32.toInt_add, Int32.toInt_sub, Int32.toInt_mul, Int64.le_iff_toInt_le, Int64.lt_iff_toInt_lt, Int32.le_iff_toInt_le, Int32.lt_iff_toInt_lt, ← Int32.toInt_inj, ← Int64.toInt_inj, Int32.toInt_toInt64, kc_0, kd_0, kc_1, kd_1, kc_3, kd_3, kc_8, kd_8, kc_24, kd_24] at *; (first | omega | ((try simp (disch := omega) only [k_bm64] at *); (try simp (disch := omega) only [k_bm] at *); (try simp (disch := omega) only [k_bm] at *); omega) | (simp only [Int.bmod] at *; omega))))
theorem lf_m_behind_3 (a0 : Int32) (a1 : Int32) (a2 : Int32) (a3 : Int32) (a4 : Int32) (h0 : 0 ≤ a0 ∧ a0 ≤ 8) (h1 : 0 ≤ (a1) ∧ (a1) ≤ 24) (h2 : 0 ≤ a2 ∧ a2 < a0) (h3 : ¬ ((0 : Int64) ≤ a3.toInt64 ∧ a3.toInt64 ≤ (((a1) - 1).toInt64))) : ¬ ((0 ≤ a2 ∧ a2 < a0) ∧ (0 ≤ a3 ∧ a3 < (a1)) ∧ 0 ≤ a4 ∧ a4 ≤ 3) := by
  first | rfl | assumption | decide | exact Or.inl rfl | (first | omega | (have hr0 := Int32.toInt_lt a0; have hs0 := Int32.le_toInt a0; have hr1 := Int32.toInt_lt a1; have hs1 := Int32.le_toInt a1; have hr2 := Int32.toInt_lt a2; have hs2 := Int32.le_toInt a2; have hr3 := Int32.toInt_lt a3; have hs3 := Int32.le_toInt a3; have hr4 := Int32.toInt_lt a4; have hs4 := Int32.le_toInt a4; simp only [Int64.toInt_add, Int64.toInt_sub, Int32.toInt_add, Int32.toInt_sub, Int32.toInt_mul, Int64.le_iff_toInt_le, Int64.lt_iff_toInt_lt, Int32.le_iff_toInt_le, Int32.lt_iff_toInt_lt, ← Int32.toInt_inj, ← Int64.toInt_inj, Int32.toInt_toInt64, kc_0, kd_0, kc_1, kd_1, kc_3, kd_3, kc_8, kd_8, kc_24, kd_24] at *; (first | omega | ((try simp (disch := omega) only [k_bm64] at *); (try simp (disch := omega) only [k_bm] at *); (try simp (disch := omega) only [k_bm] at *); omega) | (simp only [Int.bmod] at *; omega))))
set_option maxHeartbeats 4000000 in
set_option maxRecDepth 100000 in
theorem m_behind (l : Launch) (dC : Nat → ClassId) (dI : Nat → Nat → Nat) (cI cJ cQ : ClassId) (sz : Nat) (hm : Nat) (f1 : Int32) (m1 : Int32) (w1 : Int32) (vFo : Nat) (vSi : Nat) (vIt : Nat) (vMo : Nat) (la : Int32) (vBy : Nat) (vTy : Nat) (mi : Int32) (vMi : Nat) (pn : Int32) (vPs : Nat) (gn : Int32) (vGs : Nat) (fn : Int32) (vFt : Nat) (le : Int32) (vTo : Nat) (kn : Int32) (fe : Int32) (en : Int32) (ca : Int32) (an : Int32) (co : Int32) (vPr : Nat) (vSt : Nat) (vFn : Nat) (sn : Int32) (vSg : Nat) (vAl : Nat) (dr : Int32) (qTy : Nat → Int32) (qBy : Nat → Int32) (qMi : Nat → Int32) (qPs : Nat → Int32) (qGs : Nat → Int32) (qTo : Nat → Int32) (qPr : Nat → Int32) (qSt : Nat → Int32) (qFn : Nat → Int32) (qFt : Nat → Int32) (hh0 : 0 ≤ (qTy 0).toInt ∧ (qTy 0).toInt ≤ 24) (hh1 : 0 ≤ (qTy 1).toInt ∧ (qTy 1).toInt ≤ 39) (hh2 : 0 ≤ (qTy 2).toInt ∧ (qTy 2).toInt ≤ 23) (hh3 : k_bd 2 0 7 qPr) (hh4 : 0 ≤ fe ∧ fe ≤ 24) (hh5 : en = 0 ∨ kn = 0 ∨ fe ≤ 23) (hh6 : 0 ≤ kn ∧ kn ≤ 24) (hh7 : 0 ≤ fn ∧ fn ≤ 8) (hh8 : ca = 16777215) (hh9 : k_bd 32 0 9 qFt) : Met l yX12_behind (kW yX12_behind cX12_behind 4 (some .int)) { frames := 5, cells := 0, slots := 0, locals := 122 } (kPre dC dI cI cJ cQ sz [.ref hm, .int f1, .int m1, .int w1] [(kX12 hm vFo vSi vIt vMo la vBy vTy mi vMi pn vPs gn vGs fn vFt le vTo kn fe en ca an co vPr vSt vFn sn vSg vAl dr), (kAI vTy cI 3 qTy), (kAI vBy cI 120 qBy), (kAI vMi cI 24 qMi), (kAI vPs cI 32 qPs), (kAI vGs cI 16 qGs), (kAI vTo cI 96 qTo), (kAI vPr cI 2 qPr), (kAI vSt cI 2 qSt), (kAI vFn cI 2 qFn), (kAI vFt cI 32 qFt)]) (va_Qi (fun (r : Int32) (u : kS) => (r = if (0 ≤ f1 ∧ f1 < fn) ∧ (0 ≤ m1 ∧ m1 < (u.1 0)) ∧ 0 ≤ w1 ∧ w1 ≤ 3 then kBR (u.2.1 0) (u.2.1 1) (u.2.1 2) (u.1 0) (u.1 1) (u.1 2) le (kP0 qFt f1) (kP1 qFt f1) (kP2 qFt f1) (kP1 (u.2.1 1) (kP0 qFt f1)) (fun x8 => if x8 < (24 : Int32) then (kP3 qFt f1) else (0 : Int32)) m1 w1 else -2) ∧ (0 ≤ (u.1 0) ∧ (u.1 0) ≤ 24) ∧ (0 ≤ (u.1 1) ∧ (u.1 1) ≤ 8) ∧ (0 ≤ (u.1 2) ∧ (u.1 2) ≤ 8) ∧ (k_bd 2 0 7 (u.2.1 4)) ∧ (0 ≤ (u.1 4) ∧ (u.1 4) ≤ 24) ∧ ((u.1 5) = 0 ∨ (u.1 3) = 0 ∨ (u.1 4) ≤ 23) ∧ (0 ≤ (u.1 3) ∧ (u.1 3) ≤ 24) ∧ (k_tm (u.1 1) (u.2.1 1)) ∧ ((u.1 0) = kNm (qTy 0) (qTy 0) (kv4 qBy)) ∧ ((u.1 1) = kNm (kTh7 (qTy 1)) (qTy 1) (kv7 qBy)) ∧ ((u.1 2) = kNm (kTh2 (qTy 2)) (qTy 2) (kv2 qBy)) ∧ (k_ml (u.1 0) (u.2.1 0) (kv4 qBy)) ∧ (k_mq 5 4 (u.1 1) (qTy 1) (u.2.1 1) (kv7 qBy)) ∧ (k_mq 3 2 (u.1 2) (qTy 2) (u.2.1 2) (kv2 qBy))) (fun (u : kS) t₀ => kB dC dI cI cJ cQ (va_A [(kX12 hm vFo vSi vIt vMo la vBy vTy mi vMi pn vPs gn vGs fn vFt le vTo kn fe en ca an co vPr vSt vFn sn vSg vAl dr), (kAI vTy cI 3 qTy), (kAI vBy cI 120 qBy), (kAI vMi cI 24 qMi), (kAI vPs cI 32 qPs), (kAI vGs cI 16 qGs), (kAI vTo cI 96 qTo), (kAI vPr cI 2 qPr), (kAI vSt cI 2 qSt), (kAI vFn cI 2 qFn), (kAI vFt cI 32 qFt)] sz) [(kX12 hm vFo vSi vIt vMo la vBy vTy (u.1 0) vMi (u.1 1) vPs (u.1 2) vGs fn vFt le vTo (u.1 3) (u.1 4) (u.1 5) ca (u.1 6) (u.1 7) vPr vSt vFn sn vSg vAl dr), (kAI vTy cI 3 qTy), (kAI vBy cI 120 qBy), (kAI vMi cI 24 (u.2.1 0)), (kAI vPs cI 32 (u.2.1 1)), (kAI vGs cI 16 (u.2.1 2)), (kAI vTo cI 96 (u.2.1 3)), (kAI vPr cI 2 (u.2.1 4)), (kAI vSt cI 2 (u.2.1 5)), (kAI vFn cI 2 (u.2.1 6)), (kAI vFt cI 32 qFt)] t₀) (va_A [(kX12 hm vFo vSi vIt vMo la vBy vTy mi vMi pn vPs gn vGs fn vFt le vTo kn fe en ca an co vPr vSt vFn sn vSg vAl dr), (kAI vTy cI 3 qTy), (kAI vBy cI 120 qBy), (kAI vMi cI 24 qMi), (kAI vPs cI 32 qPs), (kAI vGs cI 16 qGs), (kAI vTo cI 96 qTo), (kAI vPr cI 2 qPr), (kAI vSt cI 2 qSt), (kAI vFn cI 2 qFn), (kAI vFt cI 32 qFt)] sz)) 0 0 (va_A [(kX12 hm vFo vSi vIt vMo la vBy vTy mi vMi pn vPs gn vGs fn vFt le vTo kn fe en ca an co vPr vSt vFn sn vSg vAl dr), (kAI vTy cI 3 qTy), (kAI vBy cI 120 qBy), (kAI vMi cI 24 qMi), (kAI vPs cI 32 qPs), (kAI vGs cI 16 qGs), (kAI vTo cI 96 qTo), (kAI vPr cI 2 qPr), (kAI vSt cI 2 qSt), (kAI vFn cI 2 qFn), (kAI vFt cI 32 qFt)] sz) := by
  refine Met.ofW (cc := cX12_behind) (maxL := 4) (ret := (some .int)) (by decide) rfl ?_
  intro p₀ e₀ s₀ m₀ args below meth c₀ s₁ B hml hv₀
  obtain ⟨rfl, hsz, hP, hK, hD0, hN⟩ := hv₀
  have hx₀ := B.exec
  have hb := B.bytes
  have hr := B.returns
  have hts := atoms_spec (ws := (kW yX12_behind cX12_behind 4 (some .int))) B.pre
  have hts := fun w h => hts w (List.mem_cons_of_mem _ h)
  have hown : s₀.vm.findClass RX12 = some m₀.cls := findClass_of_methodNamed B.named
  have hlocks := B.notSynchronized
  subst hsz
  have hD := hD0.self (sz := s₀.heap.size)
  generalize hAe : va_A [(kX12 hm vFo vSi vIt vMo la vBy vTy mi vMi pn vPs gn vGs fn vFt le vTo kn fe en ca an co vPr vSt vFn sn vSg vAl dr), (kAI vTy cI 3 qTy), (kAI vBy cI 120 qBy), (kAI vMi cI 24 qMi), (kAI vPs cI 32 qPs), (kAI vGs cI 16 qGs), (kAI vTo cI 96 qTo), (kAI vPr cI 2 qPr), (kAI vSt cI 2 qSt), (kAI vFn cI 2 qFn), (kAI vFt cI 32 qFt)] s₀.heap.size = A at hD ⊢
  have hA : ∀ q : Nat, s₀.heap.size ≤ q → A q := fun q h => by rw [← hAe]; exact Or.inr h
  have hS : va_S A s₀.heap s₀.heap [] := va_S.rf
  have hP : va_P (dC, dI) vwCl [(kX12 hm vFo vSi vIt vMo la vBy vTy mi vMi pn vPs gn vGs fn vFt le vTo kn fe en ca an co vPr vSt vFn sn vSg vAl dr), (kAI vTy cI 3 qTy), (kAI vBy cI 120 qBy), (kAI vMi cI 24 qMi), (kAI vPs cI 32 qPs), (kAI vGs cI 16 qGs), (kAI vTo cI 96 qTo), (kAI vPr cI 2 qPr), (kAI vSt cI 2 qSt), (kAI vFn cI 2 qFn), (kAI vFt cI 32 qFt)] s₀.heap := hP
  have hl := lv_entry ([.ref hm, .int f1, .int m1, .int w1]) (n := 4) (Nat.le_of_ble_eq_true rfl)
  rw [lg_entry_eq]
  generalize (lg_sl ([.ref hm, .int f1, .int m1, .int w1]) ++ List.replicate (4 - (lg_sl ([.ref hm, .int f1, .int m1, .int w1])).length) Slot.unset).toArray = ls at hl ⊢
  have hl : lv_has ls 4 [(0, .ref hm), (1, .int f1), (2, .int m1), (3, .int w1)] := hl
  obtain ⟨H, hH⟩ : ∃ z : Heap, z = s₀.heap := ⟨_, rfl⟩
  rw [← hH] at hP
  have hS : va_S A s₀.heap H [] := by rw [hH]; exact hS
  refine k_heap hH ?_
  have hD : va_D A [(kX12 hm vFo vSi vIt vMo la vBy vTy mi vMi pn vPs gn vGs fn vFt le vTo kn fe en ca an co vPr vSt vFn sn vSg vAl dr), (kAI vTy cI 3 qTy), (kAI vBy cI 120 qBy), (kAI vMi cI 24 qMi), (kAI vPs cI 32 qPs), (kAI vGs cI 16 qGs), (kAI vTo cI 96 qTo), (kAI vPr cI 2 qPr), (kAI vSt cI 2 qSt), (kAI vFn cI 2 qFn), (kAI vFt cI 32 qFt)] := hD
  obtain ⟨locs, hlo⟩ : ∃ z : List Loc, z = [] := ⟨_, rfl⟩
  rw [← hlo] at hS ⊢
  clear hlo hH hAe hD0
  refine lv_aload_n hx₀ hb dX12_behind_0 rfl (lv_at hl 0 rfl) ?_
  obtain ⟨hPc, hDc, hFc, hC⟩ := k_cw (wc := [(kX12 hm vFo vSi vIt vMo la vBy vTy mi vMi pn vPs gn vGs fn vFt le vTo kn fe en ca an co vPr vSt vFn sn vSg vAl dr), (kAI vTy cI 3 qTy), (kAI vBy cI 120 qBy), (kAI vMi cI 24 qMi), (kAI vPs cI 32 qPs), (kAI vGs cI 16 qGs)]) hP hD hS hA [0, 1, 2, 3, 4, 5] (by decide +kernel) rfl
  refine va_callv (va_runV (As := []) (rest := []) ⟨hx₀, hb, hml, hown, hts⟩ (g_reads l dC dI cI cJ cQ H.size hm vFo vSi vIt vMo la vBy vTy mi vMi pn vPs gn vGs fn vFt le vTo kn fe en ca an co vPr vSt vFn sn vSg vAl dr qTy qBy qMi qPs qGs (hh0) (hh1) (hh2)) (cwV 0 hts (kGV wd_298 wd_295 wd_296 wd_297 wd_5) rfl rfl rfl (by decide +kernel) ⟨Nat.le_of_ble_eq_true rfl, Nat.le_of_ble_eq_true rfl⟩) (k_preV11 (q0 := 0) hK hPc hDc hN rfl) rfl rfl hl.1 rfl (lv_room (Nat.le_of_ble_eq_true rfl)) dX12_behind_1 ⟨by decide +kernel, by decide +kernel⟩) hS (fun q _ h => hFc q h) hFc (fun u₀ t₀ H1 locs ht hvm hw hB hz1 hk1 hS => ?_)
  obtain ⟨g_2, ga_3, gl_4, gb_5, gp_6⟩ := u₀
  obtain ⟨hP1, hK1, hD1⟩ := hB
  rw [ht] at hP1
  have hJ := k_jn (wr := [(kAI vTo cI 96 qTo), (kAI vPr cI 2 qPr), (kAI vSt cI 2 qSt), (kAI vFn cI 2 qFn), (kAI vFt cI 32 qFt)]) (wt := [(kAI vTo cI 96 qTo), (kAI vPr cI 2 qPr), (kAI vSt cI 2 qSt), (kAI vFn cI 2 qFn), (kAI vFt cI 32 qFt), (kX12 hm vFo vSi vIt vMo la vBy vTy (g_2 0) vMi (g_2 1) vPs (g_2 2) vGs fn vFt le vTo kn fe en ca an co vPr vSt vFn sn vSg vAl dr), (kAI vTy cI 3 qTy), (kAI vBy cI 120 qBy), (kAI vMi cI 24 (ga_3 0)), (kAI vPs cI 32 (ga_3 1)), (kAI vGs cI 16 (ga_3 2))]) hP hD hC [6, 7, 8, 9, 10] rfl (by decide +kernel) (by decide +kernel) hk1 hFc hP1 hD1 rfl
  clear hP hD hPc hDc hFc hC hP1 hD1 hK1 hz1 hk1 hvm ht
  obtain ⟨hP, hD⟩ := hJ
  generalize H1 = H at hP hS ⊢
  try dsimp only at hw
  obtain ⟨c_7, c_8, c_9, c_10, c_11, c_12, c_13, c_14, c_15, c_16⟩ := hw
  refine lv_aload_n hx₀ hb dX12_behind_4 rfl (lv_at hl 0 rfl) ?_
  refine lv_iload_n hx₀ hb dX12_behind_5 rfl (lv_at hl 1 rfl) ?_
  obtain ⟨hPc, hDc, hFc, hC⟩ := k_cw (wc := [(kX12 hm vFo vSi vIt vMo la vBy vTy (g_2 0) vMi (g_2 1) vPs (g_2 2) vGs fn vFt le vTo kn fe en ca an co vPr vSt vFn sn vSg vAl dr)]) hP hD hS hA [5] (by decide +kernel) rfl
  refine va_calli (va_runV (As := [.int f1]) (rest := []) ⟨hx₀, hb, hml, hown, hts⟩ (g_isFlight l dC dI cI cJ cQ H.size hm f1 vFo vSi vIt vMo la vBy vTy (g_2 0) vMi (g_2 1) vPs (g_2 2) vGs fn vFt le vTo kn fe en ca an co vPr vSt vFn sn vSg vAl dr (hh7)) (cwV 1 hts (kGV wd_528 wd_525 wd_526 wd_527 wd_5) rfl rfl rfl (by decide +kernel) ⟨Nat.le_of_ble_eq_true rfl, Nat.le_of_ble_eq_true rfl⟩) (k_preV11 (q0 := 0) hK hPc hDc hN rfl) rfl rfl hl.1 rfl (lv_room (Nat.le_of_ble_eq_true rfl)) dX12_behind_6 ⟨by decide +kernel, by decide +kernel⟩) hS (fun q _ h => hFc q h) hFc (fun r_17 u₀ t₀ H1 locs ht hvm hw hB hz1 hk1 hS => ?_)
  obtain ⟨hP1, hK1, hD1⟩ := hB
  rw [ht] at hP1
  have hJ := k_jn (wr := [(kAI vTo cI 96 qTo), (kAI vPr cI 2 qPr), (kAI vSt cI 2 qSt), (kAI vFn cI 2 qFn), (kAI vFt cI 32 qFt), (kAI vTy cI 3 qTy), (kAI vBy cI 120 qBy), (kAI vMi cI 24 (ga_3 0)), (kAI vPs cI 32 (ga_3 1)), (kAI vGs cI 16 (ga_3 2))]) (wt := [(kAI vTo cI 96 qTo), (kAI vPr cI 2 qPr), (kAI vSt cI 2 qSt), (kAI vFn cI 2 qFn), (kAI vFt cI 32 qFt), (kAI vTy cI 3 qTy), (kAI vBy cI 120 qBy), (kAI vMi cI 24 (ga_3 0)), (kAI vPs cI 32 (ga_3 1)), (kAI vGs cI 16 (ga_3 2)), (kX12 hm vFo vSi vIt vMo la vBy vTy (g_2 0) vMi (g_2 1) vPs (g_2 2) vGs fn vFt le vTo kn fe en ca an co vPr vSt vFn sn vSg vAl dr)]) hP hD hC [0, 1, 2, 3, 4, 6, 7, 8, 9, 10] rfl (by decide +kernel) (by decide +kernel) hk1 hFc hP1 hD1 rfl
  clear hP hD hPc hDc hFc hC hP1 hD1 hK1 hz1 hk1 hvm ht
  obtain ⟨hP, hD⟩ := hJ
  generalize H1 = H at hP hS ⊢
  try dsimp only at hw
  by_cases c_18 : 0 ≤ f1 ∧ f1 < fn
  · rw [if_pos c_18] at hw
    refine k_topi (v := 1) hw ?_
    refine lv_if_eq (tgt := 50) hx₀ hb dX12_behind_9 (by decide) (fun c9 => absurd c9 (by decide +kernel)) (fun _ => ?_)
    refine lv_iload_n hx₀ hb dX12_behind_12 rfl (lv_at hl 2 rfl) ?_
    refine lv_i2l hx₀ hb dX12_behind_13 rfl ?_
    refine lv_lconst (v := 0) hx₀ hb dX12_behind_14 (by decide +kernel) ?_
    refine lv_aload_n hx₀ hb dX12_behind_15 rfl (lv_at hl 0 rfl) ?_
    refine va_get (D := (dC, dI)) (ci := 11) (v := .int (g_2 0)) (C := RX12) (T := TX12) (N := 30) hx₀ hb hts inlX12 hown hK hP 10 rfl rfl 7 (by decide) (hts (.fieldLink RX12 107 "BittenStickModel" "miles" "I") wd_252) (fun _ h9 => h9) rfl dX12_behind_16 ?_
    refine lv_iconst (v := 1) hx₀ hb dX12_behind_19 (by decide +kernel) ?_
    refine lv_isub hx₀ hb dX12_behind_20 ?_
    refine lv_i2l hx₀ hb dX12_behind_21 rfl ?_
    obtain ⟨hPc, hDc, hFc, hC⟩ := k_cw (wc := []) hP hD hS hA [] (by decide +kernel) rfl
    refine va_calli (va_runS (As := [.long m1.toInt64, .long 0, .long (((g_2 0) - 1).toInt64)]) (rest := []) ⟨hx₀, hb, hml, hown, hts⟩ (c_in l dC dI cI cJ cQ H.size m1.toInt64 0 (((g_2 0) - 1).toInt64)) (va_cwS 3 hts (kGS wd_208 wd_206 wd_207 wd_5) rfl rfl rfl (by decide +kernel) ⟨Nat.le_of_ble_eq_true rfl, Nat.le_of_ble_eq_true rfl⟩) (k_preS hK hPc hDc hN) rfl rfl hl.1 rfl (lv_room (Nat.le_of_ble_eq_true rfl)) dX12_behind_22 ⟨by decide +kernel, by decide +kernel⟩) hS (fun q _ h => hFc q h) hFc (fun r_19 u₀ t₀ H1 locs ht hvm hw hB hz1 hk1 hS => ?_)
    obtain ⟨hP1, hK1, hD1⟩ := hB
    rw [ht] at hP1
    have hJ := k_jn (wr := [(kAI vTo cI 96 qTo), (kAI vPr cI 2 qPr), (kAI vSt cI 2 qSt), (kAI vFn cI 2 qFn), (kAI vFt cI 32 qFt), (kAI vTy cI 3 qTy), (kAI vBy cI 120 qBy), (kAI vMi cI 24 (ga_3 0)), (kAI vPs cI 32 (ga_3 1)), (kAI vGs cI 16 (ga_3 2)), (kX12 hm vFo vSi vIt vMo la vBy vTy (g_2 0) vMi (g_2 1) vPs (g_2 2) vGs fn vFt le vTo kn fe en ca an co vPr vSt vFn sn vSg vAl dr)]) (wt := [(kAI vTo cI 96 qTo), (kAI vPr cI 2 qPr), (kAI vSt cI 2 qSt), (kAI vFn cI 2 qFn), (kAI vFt cI 32 qFt), (kAI vTy cI 3 qTy), (kAI vBy cI 120 qBy), (kAI vMi cI 24 (ga_3 0)), (kAI vPs cI 32 (ga_3 1)), (kAI vGs cI 16 (ga_3 2)), (kX12 hm vFo vSi vIt vMo la vBy vTy (g_2 0) vMi (g_2 1) vPs (g_2 2) vGs fn vFt le vTo kn fe en ca an co vPr vSt vFn sn vSg vAl dr)]) hP hD hC [0, 1, 2, 3, 4, 5, 6, 7, 8, 9, 10] rfl (by decide +kernel) (by decide +kernel) hk1 hFc hP1 hD1 rfl
    clear hP hD hPc hDc hFc hC hP1 hD1 hK1 hz1 hk1 hvm ht
    obtain ⟨hP, hD⟩ := hJ
    generalize H1 = H at hP hS ⊢
    try dsimp only at hw
    by_cases c_20 : (0 : Int64) ≤ m1.toInt64 ∧ m1.toInt64 ≤ (((g_2 0) - 1).toInt64)
    · rw [if_pos c_20] at hw
      refine k_topi (v := 1) hw ?_
      refine lv_if_eq (tgt := 50) hx₀ hb dX12_behind_25 (by decide) (fun c9 => absurd c9 (by decide +kernel)) (fun _ => ?_)
      refine lv_iload_n hx₀ hb dX12_behind_28 rfl (lv_at hl 3 rfl) ?_
      refine lv_i2l hx₀ hb dX12_behind_29 rfl ?_
      refine lv_lconst (v := 0) hx₀ hb dX12_behind_30 (by decide +kernel) ?_
      refine lv_ldc2 (v := 3) hx₀ hb hown (hts (.constantLong RX12 72 (3)) wd_319) dX12_behind_31 ?_
      obtain ⟨hPc, hDc, hFc, hC⟩ := k_cw (wc := []) hP hD hS hA [] (by decide +kernel) rfl
      refine va_calli (va_runS (As := [.long w1.toInt64, .long 0, .long 3]) (rest := []) ⟨hx₀, hb, hml, hown, hts⟩ (c_in l dC dI cI cJ cQ H.size w1.toInt64 0 3) (va_cwS 3 hts (kGS wd_208 wd_206 wd_207 wd_5) rfl rfl rfl (by decide +kernel) ⟨Nat.le_of_ble_eq_true rfl, Nat.le_of_ble_eq_true rfl⟩) (k_preS hK hPc hDc hN) rfl rfl hl.1 rfl (lv_room (Nat.le_of_ble_eq_true rfl)) dX12_behind_34 ⟨by decide +kernel, by decide +kernel⟩) hS (fun q _ h => hFc q h) hFc (fun r_21 u₀ t₀ H1 locs ht hvm hw hB hz1 hk1 hS => ?_)
      obtain ⟨hP1, hK1, hD1⟩ := hB
      rw [ht] at hP1
      have hJ := k_jn (wr := [(kAI vTo cI 96 qTo), (kAI vPr cI 2 qPr), (kAI vSt cI 2 qSt), (kAI vFn cI 2 qFn), (kAI vFt cI 32 qFt), (kAI vTy cI 3 qTy), (kAI vBy cI 120 qBy), (kAI vMi cI 24 (ga_3 0)), (kAI vPs cI 32 (ga_3 1)), (kAI vGs cI 16 (ga_3 2)), (kX12 hm vFo vSi vIt vMo la vBy vTy (g_2 0) vMi (g_2 1) vPs (g_2 2) vGs fn vFt le vTo kn fe en ca an co vPr vSt vFn sn vSg vAl dr)]) (wt := [(kAI vTo cI 96 qTo), (kAI vPr cI 2 qPr), (kAI vSt cI 2 qSt), (kAI vFn cI 2 qFn), (kAI vFt cI 32 qFt), (kAI vTy cI 3 qTy), (kAI vBy cI 120 qBy), (kAI vMi cI 24 (ga_3 0)), (kAI vPs cI 32 (ga_3 1)), (kAI vGs cI 16 (ga_3 2)), (kX12 hm vFo vSi vIt vMo la vBy vTy (g_2 0) vMi (g_2 1) vPs (g_2 2) vGs fn vFt le vTo kn fe en ca an co vPr vSt vFn sn vSg vAl dr)]) hP hD hC [0, 1, 2, 3, 4, 5, 6, 7, 8, 9, 10] rfl (by decide +kernel) (by decide +kernel) hk1 hFc hP1 hD1 rfl
      clear hP hD hPc hDc hFc hC hP1 hD1 hK1 hz1 hk1 hvm ht
      obtain ⟨hP, hD⟩ := hJ
      generalize H1 = H at hP hS ⊢
      try dsimp only at hw
      by_cases c_22 : (0 : Int64) ≤ w1.toInt64 ∧ w1.toInt64 ≤ (3 : Int64)
      · rw [if_pos c_22] at hw
        refine k_topi (v := 1) hw ?_
        refine lv_if_eq (tgt := 50) hx₀ hb dX12_behind_37 (by decide) (fun c9 => absurd c9 (by decide +kernel)) (fun _ => ?_)
        refine lv_aload_n hx₀ hb dX12_behind_40 rfl (lv_at hl 0 rfl) ?_
        refine lv_iload_n hx₀ hb dX12_behind_41 rfl (lv_at hl 1 rfl) ?_
        refine lv_iload_n hx₀ hb dX12_behind_42 rfl (lv_at hl 2 rfl) ?_
        refine lv_iload_n hx₀ hb dX12_behind_43 rfl (lv_at hl 3 rfl) ?_
        obtain ⟨hPc, hDc, hFc, hC⟩ := k_cw (wc := [(kX12 hm vFo vSi vIt vMo la vBy vTy (g_2 0) vMi (g_2 1) vPs (g_2 2) vGs fn vFt le vTo kn fe en ca an co vPr vSt vFn sn vSg vAl dr), (kAI vMi cI 24 (ga_3 0)), (kAI vPs cI 32 (ga_3 1)), (kAI vGs cI 16 (ga_3 2)), (kAI vTo cI 96 qTo), (kAI vPr cI 2 qPr), (kAI vSt cI 2 qSt), (kAI vFn cI 2 qFn), (kAI vFt cI 32 qFt)]) hP hD hS hA [10, 7, 8, 9, 0, 1, 2, 3, 4] (by decide +kernel) rfl
        refine va_calli (va_runV (As := [.int f1, .int m1, .int w1]) (rest := []) ⟨hx₀, hb, hml, hown, hts⟩ (e_behindOf l dC dI cI cJ cQ H.size hm f1 m1 w1 vFo vSi vIt vMo la vBy vTy (g_2 0) vMi (g_2 1) vPs (g_2 2) vGs fn vFt le vTo kn fe en ca an co vPr vSt vFn sn vSg vAl dr (ga_3 0) (ga_3 1) (ga_3 2) qTo qPr qSt qFn qFt (c_7) (c_8) (c_9) (hh3) (lf_g_flies_3 fn f1 hh7 c_18) (lf_m_behind_1 (g_2 0) m1 c_7 c_20) (show 0 ≤ w1 ∧ w1 ≤ 3 from ⟨((k_64 (a := w1) (l := 0) (h := 3) (by decide) (by decide)).mp c_22).1, ((k_64 (a := w1) (l := 0) (h := 3) (by decide) (by decide)).mp c_22).2⟩) (c_10) (hh8) (hh9)) (cwV 3 hts (kGV wd_598 wd_595 wd_596 wd_597 wd_5) rfl rfl rfl (by decide +kernel) ⟨Nat.le_of_ble_eq_true rfl, Nat.le_of_ble_eq_true rfl⟩) (k_preV11 (q0 := 0) hK hPc hDc hN rfl) rfl rfl hl.1 rfl (lv_room (Nat.le_of_ble_eq_true rfl)) dX12_behind_44 ⟨by decide +kernel, by decide +kernel⟩) hS (fun q _ h => hFc q h) hFc (fun r_23 u₀ t₀ H1 locs ht hvm hw hB hz1 hk1 hS => ?_)
        obtain ⟨g_24, ga_25, gl_26, gb_27, gp_28⟩ := u₀
        obtain ⟨hP1, hK1, hD1⟩ := hB
        rw [ht] at hP1
        have hJ := k_jn (wr := [(kAI vTy cI 3 qTy), (kAI vBy cI 120 qBy)]) (wt := [(kAI vTy cI 3 qTy), (kAI vBy cI 120 qBy), (kX12 hm vFo vSi vIt vMo la vBy vTy (g_2 0) vMi (g_2 1) vPs (g_2 2) vGs fn vFt le vTo (g_24 0) (g_24 1) (g_24 2) ca (g_24 3) (g_24 4) vPr vSt vFn sn vSg vAl dr), (kAI vMi cI 24 (ga_3 0)), (kAI vPs cI 32 (ga_3 1)), (kAI vGs cI 16 (ga_3 2)), (kAI vTo cI 96 (ga_25 0)), (kAI vPr cI 2 (ga_25 1)), (kAI vSt cI 2 (ga_25 2)), (kAI vFn cI 2 (ga_25 3)), (kAI vFt cI 32 qFt)]) hP hD hC [5, 6] rfl (by decide +kernel) (by decide +kernel) hk1 hFc hP1 hD1 rfl
        clear hP hD hPc hDc hFc hC hP1 hD1 hK1 hz1 hk1 hvm ht
        obtain ⟨hP, hD⟩ := hJ
        generalize H1 = H at hP hS ⊢
        try dsimp only at hw
        obtain ⟨c_29, c_30, c_31, c_32, c_33⟩ := hw
        refine lv_goto (tgt := 52) hx₀ hb dX12_behind_47 (by decide) ?_
        obtain ⟨hP9, hD9⟩ := k_c2 (wc := [(kX12 hm vFo vSi vIt vMo la vBy vTy (g_2 0) vMi (g_2 1) vPs (g_2 2) vGs fn vFt le vTo (g_24 0) (g_24 1) (g_24 2) ca (g_24 3) (g_24 4) vPr vSt vFn sn vSg vAl dr), (kAI vTy cI 3 qTy), (kAI vBy cI 120 qBy), (kAI vMi cI 24 (ga_3 0)), (kAI vPs cI 32 (ga_3 1)), (kAI vGs cI 16 (ga_3 2)), (kAI vTo cI 96 (ga_25 0)), (kAI vPr cI 2 (ga_25 1)), (kAI vSt cI 2 (ga_25 2)), (kAI vFn cI 2 (ga_25 3)), (kAI vFt cI 32 qFt)]) hP hD [2, 0, 1, 3, 4, 5, 6, 7, 8, 9, 10] (by decide +kernel) rfl
        exact W.iret (v := r_23) hx₀ hb hr (fun t₀ ht hW => ⟨⟨r_23, (k_fn [(g_2 0), (g_2 1), (g_2 2), (g_24 0), (g_24 1), (g_24 2), (g_24 3), (g_24 4)], k_fa [(ga_3 0), (ga_3 1), (ga_3 2), ga_25 0, ga_25 1, ga_25 2, ga_25 3], k_fl [], k_fL [], k_fp []), rfl, ⟨(c_29.trans (if_pos (lf_m_behind_2 fn (g_2 0) f1 m1 w1 hh7 c_7 c_18 c_20 c_22)).symm), c_7, c_8, c_9, c_30, c_31, c_32, c_33, c_10, c_11, c_12, c_13, c_14, c_15, c_16⟩, by rw [ht]; exact hP9, va_K.moved hW.alike hK, hD9⟩, hS.F ht⟩) hS.2.2 dX12_behind_52
      rw [if_neg c_22] at hw
      refine k_topi (v := 0) hw ?_
      refine lv_if_eq (tgt := 50) hx₀ hb dX12_behind_37 (by decide) (fun _ => ?_) (fun c9 => absurd (by decide +kernel) c9)
      refine lv_bipush (v := (-2)) hx₀ hb dX12_behind_50 (by decide +kernel) ?_
      obtain ⟨hP9, hD9⟩ := k_c2 (wc := [(kX12 hm vFo vSi vIt vMo la vBy vTy (g_2 0) vMi (g_2 1) vPs (g_2 2) vGs fn vFt le vTo kn fe en ca an co vPr vSt vFn sn vSg vAl dr), (kAI vTy cI 3 qTy), (kAI vBy cI 120 qBy), (kAI vMi cI 24 (ga_3 0)), (kAI vPs cI 32 (ga_3 1)), (kAI vGs cI 16 (ga_3 2)), (kAI vTo cI 96 qTo), (kAI vPr cI 2 qPr), (kAI vSt cI 2 qSt), (kAI vFn cI 2 qFn), (kAI vFt cI 32 qFt)]) hP hD [10, 5, 6, 7, 8, 9, 0, 1, 2, 3, 4] (by decide +kernel) rfl
      exact W.iret (v := (-2)) hx₀ hb hr (fun t₀ ht hW => ⟨⟨(-2), (k_fn [(g_2 0), (g_2 1), (g_2 2), kn, fe, en, an, co], k_fa [ga_3 0, ga_3 1, ga_3 2, qTo, qPr, qSt, qFn], k_fl [], k_fL [], k_fp []), rfl, ⟨(if_neg (show ¬ ((0 ≤ f1 ∧ f1 < fn) ∧ (0 ≤ m1 ∧ m1 < (g_2 0)) ∧ 0 ≤ w1 ∧ w1 ≤ 3) from (fun z => (fun z => c_22 ((k_64 (a := w1) (l := 0) (h := 3) (by decide) (by decide)).mpr z)) (And.intro z.2.2.1 z.2.2.2)))).symm, c_7, c_8, c_9, hh3, hh4, hh5, hh6, c_10, c_11, c_12, c_13, c_14, c_15, c_16⟩, by rw [ht]; exact hP9, va_K.moved hW.alike hK, hD9⟩, hS.F ht⟩) hS.2.2 dX12_behind_52
    rw [if_neg c_20] at hw
    refine k_topi (v := 0) hw ?_
    refine lv_if_eq (tgt := 50) hx₀ hb dX12_behind_25 (by decide) (fun _ => ?_) (fun c9 => absurd (by decide +kernel) c9)
    refine lv_bipush (v := (-2)) hx₀ hb dX12_behind_50 (by decide +kernel) ?_
    obtain ⟨hP9, hD9⟩ := k_c2 (wc := [(kX12 hm vFo vSi vIt vMo la vBy vTy (g_2 0) vMi (g_2 1) vPs (g_2 2) vGs fn vFt le vTo kn fe en ca an co vPr vSt vFn sn vSg vAl dr), (kAI vTy cI 3 qTy), (kAI vBy cI 120 qBy), (kAI vMi cI 24 (ga_3 0)), (kAI vPs cI 32 (ga_3 1)), (kAI vGs cI 16 (ga_3 2)), (kAI vTo cI 96 qTo), (kAI vPr cI 2 qPr), (kAI vSt cI 2 qSt), (kAI vFn cI 2 qFn), (kAI vFt cI 32 qFt)]) hP hD [10, 5, 6, 7, 8, 9, 0, 1, 2, 3, 4] (by decide +kernel) rfl
    exact W.iret (v := (-2)) hx₀ hb hr (fun t₀ ht hW => ⟨⟨(-2), (k_fn [(g_2 0), (g_2 1), (g_2 2), kn, fe, en, an, co], k_fa [ga_3 0, ga_3 1, ga_3 2, qTo, qPr, qSt, qFn], k_fl [], k_fL [], k_fp []), rfl, ⟨(if_neg (lf_m_behind_3 fn (g_2 0) f1 m1 w1 hh7 c_7 c_18 c_20)).symm, c_7, c_8, c_9, hh3, hh4, hh5, hh6, c_10, c_11, c_12, c_13, c_14, c_15, c_16⟩, by rw [ht]; exact hP9, va_K.moved hW.alike hK, hD9⟩, hS.F ht⟩) hS.2.2 dX12_behind_52
  rw [if_neg c_18] at hw
  refine k_topi (v := 0) hw ?_
  refine lv_if_eq (tgt := 50) hx₀ hb dX12_behind_9 (by decide) (fun _ => ?_) (fun c9 => absurd (by decide +kernel) c9)
  refine lv_bipush (v := (-2)) hx₀ hb dX12_behind_50 (by decide +kernel) ?_
  obtain ⟨hP9, hD9⟩ := k_c2 (wc := [(kX12 hm vFo vSi vIt vMo la vBy vTy (g_2 0) vMi (g_2 1) vPs (g_2 2) vGs fn vFt le vTo kn fe en ca an co vPr vSt vFn sn vSg vAl dr), (kAI vTy cI 3 qTy), (kAI vBy cI 120 qBy), (kAI vMi cI 24 (ga_3 0)), (kAI vPs cI 32 (ga_3 1)), (kAI vGs cI 16 (ga_3 2)), (kAI vTo cI 96 qTo), (kAI vPr cI 2 qPr), (kAI vSt cI 2 qSt), (kAI vFn cI 2 qFn), (kAI vFt cI 32 qFt)]) hP hD [10, 5, 6, 7, 8, 9, 0, 1, 2, 3, 4] (by decide +kernel) rfl
  exact W.iret (v := (-2)) hx₀ hb hr (fun t₀ ht hW => ⟨⟨(-2), (k_fn [(g_2 0), (g_2 1), (g_2 2), kn, fe, en, an, co], k_fa [ga_3 0, ga_3 1, ga_3 2, qTo, qPr, qSt, qFn], k_fl [], k_fL [], k_fp []), rfl, ⟨(if_neg (show ¬ ((0 ≤ f1 ∧ f1 < fn) ∧ (0 ≤ m1 ∧ m1 < (g_2 0)) ∧ 0 ≤ w1 ∧ w1 ≤ 3) from (fun z => c_18 z.1))).symm, c_7, c_8, c_9, hh3, hh4, hh5, hh6, c_10, c_11, c_12, c_13, c_14, c_15, c_16⟩, by rw [ht]; exact hP9, va_K.moved hW.alike hK, hD9⟩, hS.F ht⟩) hS.2.2 dX12_behind_52
