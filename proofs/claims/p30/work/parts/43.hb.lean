theorem lf_g_type_1 (a0 : Int32) (h0 : 0 ≤ (a0).toInt ∧ (a0).toInt ≤ 24) (h1 : ¬ (a0) = 24) : 0 ≤ (0 + (a0)).toInt ∧ (0 + (a0)).toInt < 120 := by
  first | rfl | assumption | decide | exact Or.inl rfl | (first | rfl | assumption | decide | omega | (have hr0 := Int32.toInt_lt a0; have hs0 := Int32.le_toInt a0; simp only [Int64.toInt_add, Int64.toInt_sub, Int32.toInt_add, Int32.toInt_sub, Int32.toInt_mul, Int64.le_iff_toInt_le, Int64.lt_iff_toInt_lt, Int32.le_iff_toInt_le, Int32.lt_iff_toInt_lt, ← Int32.toInt_inj, ← Int64.toInt_inj, Int32.toInt_toInt64, kc_0, kc_24, kc_120, true_and, and_true, not_true_eq_false, not_false_eq_true] at * <;> ((first | omega | ((try simp (disch := omega) only [k_bm64] at *); (try simp (disch := omega) only [k_bm] at *); (try simp (disch := omega) only [k_bm] at *); omega) | (simp only [Int.bmod] at *; omega)))))
theorem lf_g_type_2 (a0 : Int32) (h0 : 0 ≤ (a0).toInt ∧ (a0).toInt ≤ 24) (h1 : ¬ (a0) = 24) : 0 ≤ (((a0) + 1)).toInt ∧ (((a0) + 1)).toInt ≤ 24 := by
  first | rfl | assumption | decide | exact Or.inl rfl | (first | rfl | assumption | decide | omega | (have hr0 := Int32.toInt_lt a0; have hs0 := Int32.le_toInt a0; simp only [Int64.toInt_add, Int64.toInt_sub, Int32.toInt_add, Int32.toInt_sub, Int32.toInt_mul, Int64.le_iff_toInt_le, Int64.lt_iff_toInt_lt, Int32.le_iff_toInt_le, Int32.lt_iff_toInt_lt, ← Int32.toInt_inj, ← Int64.toInt_inj, Int32.toInt_toInt64, kc_0, kc_1, kc_24, true_and, and_true, not_true_eq_false, not_false_eq_true] at * <;> ((first | omega | ((try simp (disch := omega) only [k_bm64] at *); (try simp (disch := omega) only [k_bm] at *); (try simp (disch := omega) only [k_bm] at *); omega) | (simp only [Int.bmod] at *; omega)))))
theorem lf_g_type_3 (a0 : Int32) (h0 : 0 ≤ (a0).toInt ∧ (a0).toInt ≤ 39) (h1 : ¬ (a0) = 39) : 0 ≤ (40 + (a0)).toInt ∧ (40 + (a0)).toInt < 120 := by
  first | rfl | assumption | decide | exact Or.inl rfl | (first | rfl | assumption | decide | omega | (have hr0 := Int32.toInt_lt a0; have hs0 := Int32.le_toInt a0; simp only [Int64.toInt_add, Int64.toInt_sub, Int32.toInt_add, Int32.toInt_sub, Int32.toInt_mul, Int64.le_iff_toInt_le, Int64.lt_iff_toInt_lt, Int32.le_iff_toInt_le, Int32.lt_iff_toInt_lt, ← Int32.toInt_inj, ← Int64.toInt_inj, Int32.toInt_toInt64, kc_0, kc_39, kc_40, kc_120, true_and, and_true, not_true_eq_false, not_false_eq_true] at * <;> ((first | omega | ((try simp (disch := omega) only [k_bm64] at *); (try simp (disch := omega) only [k_bm] at *); (try simp (disch := omega) only [k_bm] at *); omega) | (simp only [Int.bmod] at *; omega)))))
theorem lf_g_type_4 (a0 : Int32) (h0 : 0 ≤ (a0).toInt ∧ (a0).toInt ≤ 39) (h1 : ¬ (a0) = 39) : 0 ≤ (((a0) + 1)).toInt ∧ (((a0) + 1)).toInt ≤ 39 := by
  first | rfl | assumption | decide | exact Or.inl rfl | (first | rfl | assumption | decide | omega | (have hr0 := Int32.toInt_lt a0; have hs0 := Int32.le_toInt a0; simp only [Int64.toInt_add, Int64.toInt_sub, Int32.toInt_add, Int32.toInt_sub, Int32.toInt_mul, Int64.le_iff_toInt_le, Int64.lt_iff_toInt_lt, Int32.le_iff_toInt_le, Int32.lt_iff_toInt_lt, ← Int32.toInt_inj, ← Int64.toInt_inj, Int32.toInt_toInt64, kc_0, kc_1, kc_39, true_and, and_true, not_true_eq_false, not_false_eq_true] at * <;> ((first | omega | ((try simp (disch := omega) only [k_bm64] at *); (try simp (disch := omega) only [k_bm] at *); (try simp (disch := omega) only [k_bm] at *); omega) | (simp only [Int.bmod] at *; omega)))))
theorem lf_g_type_5 (a0 : Int32) (h0 : 0 ≤ (a0).toInt ∧ (a0).toInt ≤ 23) (h1 : ¬ (a0) = 23) : 0 ≤ (80 + (a0)).toInt ∧ (80 + (a0)).toInt < 120 := by
  first | rfl | assumption | decide | exact Or.inl rfl | (first | rfl | assumption | decide | omega | (have hr0 := Int32.toInt_lt a0; have hs0 := Int32.le_toInt a0; simp only [Int64.toInt_add, Int64.toInt_sub, Int32.toInt_add, Int32.toInt_sub, Int32.toInt_mul, Int64.le_iff_toInt_le, Int64.lt_iff_toInt_lt, Int32.le_iff_toInt_le, Int32.lt_iff_toInt_lt, ← Int32.toInt_inj, ← Int64.toInt_inj, Int32.toInt_toInt64, kc_0, kc_23, kc_80, kc_120, true_and, and_true, not_true_eq_false, not_false_eq_true] at * <;> ((first | omega | ((try simp (disch := omega) only [k_bm64] at *); (try simp (disch := omega) only [k_bm] at *); (try simp (disch := omega) only [k_bm] at *); omega) | (simp only [Int.bmod] at *; omega)))))
theorem lf_g_type_6 (a0 : Int32) (h0 : 0 ≤ (a0).toInt ∧ (a0).toInt ≤ 23) (h1 : ¬ (a0) = 23) : 0 ≤ (((a0) + 1)).toInt ∧ (((a0) + 1)).toInt ≤ 23 := by
  first | rfl | assumption | decide | exact Or.inl rfl | (first | rfl | assumption | decide | omega | (have hr0 := Int32.toInt_lt a0; have hs0 := Int32.le_toInt a0; simp only [Int64.toInt_add, Int64.toInt_sub, Int32.toInt_add, Int32.toInt_sub, Int32.toInt_mul, Int64.le_iff_toInt_le, Int64.lt_iff_toInt_lt, Int32.le_iff_toInt_le, Int32.lt_iff_toInt_lt, ← Int32.toInt_inj, ← Int64.toInt_inj, Int32.toInt_toInt64, kc_0, kc_1, kc_23, true_and, and_true, not_true_eq_false, not_false_eq_true] at * <;> ((first | omega | ((try simp (disch := omega) only [k_bm64] at *); (try simp (disch := omega) only [k_bm] at *); (try simp (disch := omega) only [k_bm] at *); omega) | (simp only [Int.bmod] at *; omega)))))
theorem lf_g_type_7 (a0 : Int32) (a1 : Int32) (a2 : Int32) (a3 : Int32) (a4 : Int32) (h0 : 0 ≤ (a0).toInt ∧ (a0).toInt ≤ 24) (h1 : 0 ≤ (a1).toInt ∧ (a1).toInt ≤ 39) (h2 : 0 ≤ (a2).toInt ∧ (a2).toInt ≤ 23) (h3 : 0 ≤ a3 ∧ a3 ≤ 2) (h4 : (0 : Int64) ≤ a4.toInt64 ∧ a4.toInt64 ≤ (255 : Int64)) (h5 : ¬ a3 = 0) (h6 : ¬ a3 = 1) (h7 : ¬ a3 = 2) : False := by
  first | rfl | assumption | decide | exact Or.inl rfl | (first | rfl | assumption | decide | omega | (have hr0 := Int32.toInt_lt a0; have hs0 := Int32.le_toInt a0; have hr1 := Int32.toInt_lt a1; have hs1 := Int32.le_toInt a1; have hr2 := Int32.toInt_lt a2; have hs2 := Int32.le_toInt a2; have hr3 := Int32.toInt_lt a3; have hs3 := Int32.le_toInt a3; have hr4 := Int32.toInt_lt a4; have hs4 := Int32.le_toInt a4; simp only [Int64.toInt_add, Int64.toInt_sub, Int32.toInt_add, Int32.toInt_sub, Int32.toInt_mul, Int64.le_iff_toInt_le, Int64.lt_iff_toInt_lt, Int32.le_iff_toInt_le, Int32.lt_iff_toInt_lt, ← Int32.toInt_inj, ← Int64.toInt_inj, Int32.toInt_toInt64, kc_0, kd_0, kc_1, kd_1, kc_2, kd_2, kc_23, kd_23, kc_24, kd_24, kc_39, kd_39, kc_255, kd_255, true_and, and_true, not_true_eq_false, not_false_eq_true] at * <;> ((first | omega | ((try simp (disch := omega) only [k_bm64] at *); (try simp (disch := omega) only [k_bm] at *); (try simp (disch := omega) only [k_bm] at *); omega) | (simp only [Int.bmod] at *; omega)))))
theorem lf_g_type_8 (a0 : Int32) (a1 : Int32) (a2 : Int32) (h0 : 0 ≤ (a0).toInt ∧ (a0).toInt ≤ 24) (h1 : ¬ (0 ≤ a1 ∧ a1 ≤ 2)) : ¬ (a1 = 0 ∧ 0 ≤ a2 ∧ a2 ≤ 255 ∧ ¬ a0 = 24) := by
  first | rfl | assumption | decide | exact Or.inl rfl | (first | rfl | assumption | decide | omega | (have hr0 := Int32.toInt_lt a0; have hs0 := Int32.le_toInt a0; have hr1 := Int32.toInt_lt a1; have hs1 := Int32.le_toInt a1; have hr2 := Int32.toInt_lt a2; have hs2 := Int32.le_toInt a2; simp only [Int64.toInt_add, Int64.toInt_sub, Int32.toInt_add, Int32.toInt_sub, Int32.toInt_mul, Int64.le_iff_toInt_le, Int64.lt_iff_toInt_lt, Int32.le_iff_toInt_le, Int32.lt_iff_toInt_lt, ← Int32.toInt_inj, ← Int64.toInt_inj, Int32.toInt_toInt64, kc_0, kc_2, kc_24, kc_255, true_and, and_true, not_true_eq_false, not_false_eq_true] at * <;> ((first | omega | ((try simp (disch := omega) only [k_bm64] at *); (try simp (disch := omega) only [k_bm] at *); (try simp (disch := omega) only [k_bm] at *); omega) | (simp only [Int.bmod] at *; omega)))))
theorem lf_g_type_9 (a0 : Int32) (a1 : Int32) (a2 : Int32) (h0 : 0 ≤ (a0).toInt ∧ (a0).toInt ≤ 39) (h1 : ¬ (0 ≤ a1 ∧ a1 ≤ 2)) : ¬ (a1 = 1 ∧ 0 ≤ a2 ∧ a2 ≤ 255 ∧ ¬ a0 = 39) := by
  first | rfl | assumption | decide | exact Or.inl rfl | (first | rfl | assumption | decide | omega | (have hr0 := Int32.toInt_lt a0; have hs0 := Int32.le_toInt a0; have hr1 := Int32.toInt_lt a1; have hs1 := Int32.le_toInt a1; have hr2 := Int32.toInt_lt a2; have hs2 := Int32.le_toInt a2; simp only [Int64.toInt_add, Int64.toInt_sub, Int32.toInt_add, Int32.toInt_sub, Int32.toInt_mul, Int64.le_iff_toInt_le, Int64.lt_iff_toInt_lt, Int32.le_iff_toInt_le, Int32.lt_iff_toInt_lt, ← Int32.toInt_inj, ← Int64.toInt_inj, Int32.toInt_toInt64, kc_0, kc_1, kc_2, kc_39, kc_255, true_and, and_true, not_true_eq_false, not_false_eq_true] at * <;> ((first | omega | ((try simp (disch := omega) only [k_bm64] at *); (try simp (disch := omega) only [k_bm] at *); (try simp (disch := omega) only [k_bm] at *); omega) | (simp only [Int.bmod] at *; omega)))))
theorem lf_g_type_10 (a0 : Int32) (a1 : Int32) (a2 : Int32) (h0 : 0 ≤ (a0).toInt ∧ (a0).toInt ≤ 23) (h1 : ¬ (0 ≤ a1 ∧ a1 ≤ 2)) : ¬ (a1 = 2 ∧ 0 ≤ a2 ∧ a2 ≤ 255 ∧ ¬ a0 = 23) := by
  first | rfl | assumption | decide | exact Or.inl rfl | (first | rfl | assumption | decide | omega | (have hr0 := Int32.toInt_lt a0; have hs0 := Int32.le_toInt a0; have hr1 := Int32.toInt_lt a1; have hs1 := Int32.le_toInt a1; have hr2 := Int32.toInt_lt a2; have hs2 := Int32.le_toInt a2; simp only [Int64.toInt_add, Int64.toInt_sub, Int32.toInt_add, Int32.toInt_sub, Int32.toInt_mul, Int64.le_iff_toInt_le, Int64.lt_iff_toInt_lt, Int32.le_iff_toInt_le, Int32.lt_iff_toInt_lt, ← Int32.toInt_inj, ← Int64.toInt_inj, Int32.toInt_toInt64, kc_0, kc_2, kc_23, kc_255, true_and, and_true, not_true_eq_false, not_false_eq_true] at * <;> ((first | omega | ((try simp (disch := omega) only [k_bm64] at *); (try simp (disch := omega) only [k_bm] at *); (try simp (disch := omega) only [k_bm] at *); omega) | (simp only [Int.bmod] at *; omega)))))
theorem lf_g_type_11 (a0 : Int32) (a1 : Int32) (a2 : Int32) (a3 : Int32) (a4 : Int32) (h0 : 0 ≤ (a0).toInt ∧ (a0).toInt ≤ 24) (h1 : 0 ≤ (a1).toInt ∧ (a1).toInt ≤ 39) (h2 : 0 ≤ (a2).toInt ∧ (a2).toInt ≤ 23) (h3 : ¬ (0 ≤ a3 ∧ a3 ≤ 2)) : ¬ ((a3 = 0 ∧ ¬ a0 = 24 ∨ a3 = 1 ∧ ¬ a1 = 39 ∨ a3 = 2 ∧ ¬ a2 = 23) ∧ 0 ≤ a4 ∧ a4 ≤ 255) := by
  first | rfl | assumption | decide | exact Or.inl rfl | (first | rfl | assumption | decide | omega | (have hr0 := Int32.toInt_lt a0; have hs0 := Int32.le_toInt a0; have hr1 := Int32.toInt_lt a1; have hs1 := Int32.le_toInt a1; have hr2 := Int32.toInt_lt a2; have hs2 := Int32.le_toInt a2; have hr3 := Int32.toInt_lt a3; have hs3 := Int32.le_toInt a3; have hr4 := Int32.toInt_lt a4; have hs4 := Int32.le_toInt a4; simp only [Int64.toInt_add, Int64.toInt_sub, Int32.toInt_add, Int32.toInt_sub, Int32.toInt_mul, Int64.le_iff_toInt_le, Int64.lt_iff_toInt_lt, Int32.le_iff_toInt_le, Int32.lt_iff_toInt_lt, ← Int32.toInt_inj, ← Int64.toInt_inj, Int32.toInt_toInt64, kc_0, kc_1, kc_2, kc_23, kc_24, kc_39, kc_255, true_and, and_true, not_true_eq_false, not_false_eq_true] at * <;> ((first | omega | ((try simp (disch := omega) only [k_bm64] at *); (try simp (disch := omega) only [k_bm] at *); (try simp (disch := omega) only [k_bm] at *); omega) | (simp only [Int.bmod] at *; omega)))))
set_option maxHeartbeats 4000000 in
set_option maxRecDepth 100000 in
theorem g_type (l : Launch) (dC : Nat → ClassId) (dI : Nat → Nat → Nat) (cI cJ cQ : ClassId) (sz : Nat) (hm : Nat) (tt : Int32) (b1 : Int32) (vFo : Nat) (vSi : Nat) (vIt : Nat) (vMo : Nat) (la : Int32) (vBy : Nat) (vTy : Nat) (mi : Int32) (vMi : Nat) (pn : Int32) (vPs : Nat) (gn : Int32) (vGs : Nat) (fn : Int32) (vFt : Nat) (le : Int32) (vTo : Nat) (kn : Int32) (fe : Int32) (en : Int32) (ca : Int32) (an : Int32) (co : Int32) (vPr : Nat) (vSt : Nat) (vFn : Nat) (sn : Int32) (vSg : Nat) (vAl : Nat) (dr : Int32) (qTy : Nat → Int32) (qBy : Nat → Int32) (hh0 : 0 ≤ (qTy 0).toInt ∧ (qTy 0).toInt ≤ 24) (hh1 : 0 ≤ (qTy 1).toInt ∧ (qTy 1).toInt ≤ 39) (hh2 : 0 ≤ (qTy 2).toInt ∧ (qTy 2).toInt ≤ 23) : Met l yX12_type (kW yX12_type cX12_type 3 (some .int)) { frames := 2, cells := 0, slots := 0, locals := 45 } (kPre dC dI cI cJ cQ sz [.ref hm, .int tt, .int b1] [(kX12 hm vFo vSi vIt vMo la vBy vTy mi vMi pn vPs gn vGs fn vFt le vTo kn fe en ca an co vPr vSt vFn sn vSg vAl dr), (kAI vTy cI 3 qTy), (kAI vBy cI 120 qBy)]) (va_Qi (fun (r : Int32) (u : kS) => (r = if 0 ≤ tt ∧ tt ≤ 2 ∧ 0 ≤ b1 ∧ b1 ≤ 255 then (if tt = 0 then (if qTy 0 = 24 then -4 else qTy 0 + 1) else if tt = 1 then (if qTy 1 = 39 then -4 else qTy 1 + 1) else if qTy 2 = 23 then -4 else qTy 2 + 1) else -2) ∧ (0 ≤ ((u.2.1 0) 0).toInt ∧ ((u.2.1 0) 0).toInt ≤ 24) ∧ (0 ≤ ((u.2.1 0) 1).toInt ∧ ((u.2.1 0) 1).toInt ≤ 39) ∧ (0 ≤ ((u.2.1 0) 2).toInt ∧ ((u.2.1 0) 2).toInt ≤ 23) ∧ ((u.2.1 0) 0 = if tt = 0 ∧ 0 ≤ b1 ∧ b1 ≤ 255 ∧ ¬ qTy 0 = 24 then qTy 0 + 1 else qTy 0) ∧ ((u.2.1 0) 1 = if tt = 1 ∧ 0 ≤ b1 ∧ b1 ≤ 255 ∧ ¬ qTy 1 = 39 then qTy 1 + 1 else qTy 1) ∧ ((u.2.1 0) 2 = if tt = 2 ∧ 0 ≤ b1 ∧ b1 ≤ 255 ∧ ¬ qTy 2 = 23 then qTy 2 + 1 else qTy 2) ∧ ((u.2.1 1) = if (tt = 0 ∧ ¬ qTy 0 = 24 ∨ tt = 1 ∧ ¬ qTy 1 = 39 ∨ tt = 2 ∧ ¬ qTy 2 = 23) ∧ 0 ≤ b1 ∧ b1 ≤ 255 then upd qBy (kIx tt qTy) b1 else qBy)) (fun (u : kS) t₀ => kB dC dI cI cJ cQ (va_A [(kX12 hm vFo vSi vIt vMo la vBy vTy mi vMi pn vPs gn vGs fn vFt le vTo kn fe en ca an co vPr vSt vFn sn vSg vAl dr), (kAI vTy cI 3 qTy), (kAI vBy cI 120 qBy)] sz) [(kX12 hm vFo vSi vIt vMo la vBy vTy mi vMi pn vPs gn vGs fn vFt le vTo kn fe en ca an co vPr vSt vFn sn vSg vAl dr), (kAI vTy cI 3 (u.2.1 0)), (kAI vBy cI 120 (u.2.1 1))] t₀) (va_A [(kX12 hm vFo vSi vIt vMo la vBy vTy mi vMi pn vPs gn vGs fn vFt le vTo kn fe en ca an co vPr vSt vFn sn vSg vAl dr), (kAI vTy cI 3 qTy), (kAI vBy cI 120 qBy)] sz)) 0 0 (va_A [(kX12 hm vFo vSi vIt vMo la vBy vTy mi vMi pn vPs gn vGs fn vFt le vTo kn fe en ca an co vPr vSt vFn sn vSg vAl dr), (kAI vTy cI 3 qTy), (kAI vBy cI 120 qBy)] sz) := by
  refine Met.ofW (cc := cX12_type) (maxL := 3) (ret := (some .int)) (by decide) rfl ?_
  intro p₀ e₀ s₀ m₀ args below meth c₀ s₁ B hml hv₀
  obtain ⟨rfl, hsz, hP, hK, hD0, hN⟩ := hv₀
  have hx₀ := B.exec
  have hb := B.bytes
  have hr := B.returns
  have hts := atoms_spec (ws := (kW yX12_type cX12_type 3 (some .int))) B.pre
  have hts := fun w h => hts w (List.mem_cons_of_mem _ h)
  have hown : s₀.vm.findClass RX12 = some m₀.cls := findClass_of_methodNamed B.named
  have hlocks := B.notSynchronized
  subst hsz
  have hD := hD0.self (sz := s₀.heap.size)
  generalize hAe : va_A [(kX12 hm vFo vSi vIt vMo la vBy vTy mi vMi pn vPs gn vGs fn vFt le vTo kn fe en ca an co vPr vSt vFn sn vSg vAl dr), (kAI vTy cI 3 qTy), (kAI vBy cI 120 qBy)] s₀.heap.size = A at hD ⊢
  have hA : ∀ q : Nat, s₀.heap.size ≤ q → A q := fun q h => by rw [← hAe]; exact Or.inr h
  have hS : va_S A s₀.heap s₀.heap [] := va_S.rf
  have hP : va_P (dC, dI) vwCl [(kX12 hm vFo vSi vIt vMo la vBy vTy mi vMi pn vPs gn vGs fn vFt le vTo kn fe en ca an co vPr vSt vFn sn vSg vAl dr), (kAI vTy cI 3 qTy), (kAI vBy cI 120 qBy)] s₀.heap := hP
  have hl := lv_entry ([.ref hm, .int tt, .int b1]) (n := 3) (Nat.le_of_ble_eq_true rfl)
  rw [lg_entry_eq]
  generalize (lg_sl ([.ref hm, .int tt, .int b1]) ++ List.replicate (3 - (lg_sl ([.ref hm, .int tt, .int b1])).length) Slot.unset).toArray = ls at hl ⊢
  have hl : lv_has ls 3 [(0, .ref hm), (1, .int tt), (2, .int b1)] := hl
  obtain ⟨H, hH⟩ : ∃ z : Heap, z = s₀.heap := ⟨_, rfl⟩
  rw [← hH] at hP
  have hS : va_S A s₀.heap H [] := by rw [hH]; exact hS
  refine k_heap hH ?_
  have hD : va_D A [(kX12 hm vFo vSi vIt vMo la vBy vTy mi vMi pn vPs gn vGs fn vFt le vTo kn fe en ca an co vPr vSt vFn sn vSg vAl dr), (kAI vTy cI 3 qTy), (kAI vBy cI 120 qBy)] := hD
  obtain ⟨locs, hlo⟩ : ∃ z : List Loc, z = [] := ⟨_, rfl⟩
  rw [← hlo] at hS ⊢
  clear hlo hH hAe hD0
  refine lv_iload_n hx₀ hb dX12_type_0 rfl (lv_at hl 1 rfl) ?_
  obtain ⟨hPc, hDc, hFc, hC⟩ := k_cw (wc := []) hP hD hS hA [] (by decide +kernel) rfl
  refine va_calli (va_runS (As := [.int tt]) (rest := []) ⟨hx₀, hb, hml, hown, hts⟩ (c_isText l dC dI cI cJ cQ H.size tt) (va_cwS 1 hts (kGS wd_204 wd_202 wd_203 wd_5) rfl rfl rfl (by decide +kernel) ⟨Nat.le_of_ble_eq_true rfl, Nat.le_of_ble_eq_true rfl⟩) (k_preS hK hPc hDc hN) rfl rfl hl.1 rfl (lv_room (Nat.le_of_ble_eq_true rfl)) dX12_type_1 ⟨by decide +kernel, by decide +kernel⟩) hS (fun q _ h => hFc q h) hFc (fun r_1 u₀ t₀ H1 locs ht hvm hw hB hz1 hk1 hS => ?_)
  obtain ⟨hP1, hK1, hD1⟩ := hB
  rw [ht] at hP1
  have hJ := k_jn (wr := [(kX12 hm vFo vSi vIt vMo la vBy vTy mi vMi pn vPs gn vGs fn vFt le vTo kn fe en ca an co vPr vSt vFn sn vSg vAl dr), (kAI vTy cI 3 qTy), (kAI vBy cI 120 qBy)]) (wt := [(kX12 hm vFo vSi vIt vMo la vBy vTy mi vMi pn vPs gn vGs fn vFt le vTo kn fe en ca an co vPr vSt vFn sn vSg vAl dr), (kAI vTy cI 3 qTy), (kAI vBy cI 120 qBy)]) hP hD hC [0, 1, 2] rfl (by decide +kernel) (by decide +kernel) hk1 hFc hP1 hD1 rfl
  clear hP hD hPc hDc hFc hC hP1 hD1 hK1 hz1 hk1 hvm ht
  obtain ⟨hP, hD⟩ := hJ
  generalize H1 = H at hP hS ⊢
  try dsimp only at hw
  by_cases c_2 : 0 ≤ tt ∧ tt ≤ 2
  · rw [if_pos c_2] at hw
    refine k_topi (v := 1) hw ?_
    refine lv_if_eq (tgt := 19) hx₀ hb dX12_type_4 (by decide) (fun c9 => absurd c9 (by decide +kernel)) (fun _ => ?_)
    refine lv_iload_n hx₀ hb dX12_type_7 rfl (lv_at hl 2 rfl) ?_
    refine lv_i2l hx₀ hb dX12_type_8 rfl ?_
    refine lv_lconst (v := 0) hx₀ hb dX12_type_9 (by decide +kernel) ?_
    refine lv_ldc2 (v := 255) hx₀ hb hown (hts (.constantLong RX12 96 (255)) wd_201) dX12_type_10 ?_
    obtain ⟨hPc, hDc, hFc, hC⟩ := k_cw (wc := []) hP hD hS hA [] (by decide +kernel) rfl
    refine va_calli (va_runS (As := [.long b1.toInt64, .long 0, .long 255]) (rest := []) ⟨hx₀, hb, hml, hown, hts⟩ (c_in l dC dI cI cJ cQ H.size b1.toInt64 0 255) (va_cwS 3 hts (kGS wd_208 wd_206 wd_207 wd_5) rfl rfl rfl (by decide +kernel) ⟨Nat.le_of_ble_eq_true rfl, Nat.le_of_ble_eq_true rfl⟩) (k_preS hK hPc hDc hN) rfl rfl hl.1 rfl (lv_room (Nat.le_of_ble_eq_true rfl)) dX12_type_13 ⟨by decide +kernel, by decide +kernel⟩) hS (fun q _ h => hFc q h) hFc (fun r_3 u₀ t₀ H1 locs ht hvm hw hB hz1 hk1 hS => ?_)
    obtain ⟨hP1, hK1, hD1⟩ := hB
    rw [ht] at hP1
    have hJ := k_jn (wr := [(kX12 hm vFo vSi vIt vMo la vBy vTy mi vMi pn vPs gn vGs fn vFt le vTo kn fe en ca an co vPr vSt vFn sn vSg vAl dr), (kAI vTy cI 3 qTy), (kAI vBy cI 120 qBy)]) (wt := [(kX12 hm vFo vSi vIt vMo la vBy vTy mi vMi pn vPs gn vGs fn vFt le vTo kn fe en ca an co vPr vSt vFn sn vSg vAl dr), (kAI vTy cI 3 qTy), (kAI vBy cI 120 qBy)]) hP hD hC [0, 1, 2] rfl (by decide +kernel) (by decide +kernel) hk1 hFc hP1 hD1 rfl
    clear hP hD hPc hDc hFc hC hP1 hD1 hK1 hz1 hk1 hvm ht
    obtain ⟨hP, hD⟩ := hJ
    generalize H1 = H at hP hS ⊢
    try dsimp only at hw
    by_cases c_4 : (0 : Int64) ≤ b1.toInt64 ∧ b1.toInt64 ≤ (255 : Int64)
    · rw [if_pos c_4] at hw
      refine k_topi (v := 1) hw ?_
      refine lv_if_ne (tgt := 22) hx₀ hb dX12_type_16 (by decide) (fun _ => ?_) (fun c9 => absurd c9 (by decide +kernel))
      by_cases c_5 : tt = 0
      · subst c_5
        refine lv_aload_n hx₀ hb dX12_type_22 rfl (lv_at hl 0 rfl) ?_
        refine va_get (D := (dC, dI)) (ci := 11) (v := .ref vTy) (C := RX12) (T := TX12) (N := 30) hx₀ hb hts inlX12 hown hK hP 0 rfl rfl 6 (by decide) (hts (.fieldLink RX12 25 "BittenStickModel" "typed" "[I") wd_120) (fun _ h9 => h9) rfl dX12_type_23 ?_
        refine lv_iload_n hx₀ hb dX12_type_26 rfl (lv_at hl 1 rfl) ?_
        refine va_iald hx₀ hb hK hP 1 0 rfl rfl (by unfold vp_in; decide +kernel) dX12_type_27 ?_
        refine k_topi (v := qTy 0) rfl ?_
        refine lv_iload_n hx₀ hb dX12_type_28 rfl (lv_at hl 1 rfl) ?_
        refine lv_if_ne (tgt := 37) hx₀ hb dX12_type_29 (by decide) (fun c9 => absurd (by decide +kernel) c9) (fun _ => ?_)
        refine lv_bipush (v := 24) hx₀ hb dX12_type_32 (by decide +kernel) ?_
        refine lv_goto (tgt := 49) hx₀ hb dX12_type_34 (by decide) ?_
        refine lv_icmp_ne (tgt := 55) hx₀ hb dX12_type_49 (by decide) (fun c_6 => ?_) (fun c_6 => ?_)
        · refine lv_aload_n hx₀ hb dX12_type_55 rfl (lv_at hl 0 rfl) ?_
          refine va_get (D := (dC, dI)) (ci := 11) (v := .ref vBy) (C := RX12) (T := TX12) (N := 30) hx₀ hb hts inlX12 hown hK hP 0 rfl rfl 5 (by decide) (hts (.fieldLink RX12 22 "BittenStickModel" "bytes" "[I") wd_119) (fun _ h9 => h9) rfl dX12_type_56 ?_
          refine lv_bipush (v := 40) hx₀ hb dX12_type_59 (by decide +kernel) ?_
          refine lv_iload_n hx₀ hb dX12_type_61 rfl (lv_at hl 1 rfl) ?_
          refine lv_imul hx₀ hb dX12_type_62 ?_
          refine k_topi (v := 0) (by decide +kernel) ?_
          refine lv_aload_n hx₀ hb dX12_type_63 rfl (lv_at hl 0 rfl) ?_
          refine va_get (D := (dC, dI)) (ci := 11) (v := .ref vTy) (C := RX12) (T := TX12) (N := 30) hx₀ hb hts inlX12 hown hK hP 0 rfl rfl 6 (by decide) (hts (.fieldLink RX12 25 "BittenStickModel" "typed" "[I") wd_120) (fun _ h9 => h9) rfl dX12_type_64 ?_
          refine lv_iload_n hx₀ hb dX12_type_67 rfl (lv_at hl 1 rfl) ?_
          refine va_iald hx₀ hb hK hP 1 0 rfl rfl (by unfold vp_in; decide +kernel) dX12_type_68 ?_
          refine k_topi (v := qTy 0) rfl ?_
          refine lv_iadd hx₀ hb dX12_type_69 ?_
          refine lv_iload_n hx₀ hb dX12_type_70 rfl (lv_at hl 2 rfl) ?_
          refine va_iast hx₀ hb hK hP hD hS 2 0 rfl rfl (vp_in_iff.mpr (lf_g_type_1 (qTy 0) hh0 c_6)) dX12_type_71 ?_
          clear hP hD hS
          intro H locs hP hD hS
          replace hP := k_w2 (wt := [(kX12 hm vFo vSi vIt vMo la vBy vTy mi vMi pn vPs gn vGs fn vFt le vTo kn fe en ca an co vPr vSt vFn sn vSg vAl dr), (kAI vTy cI 3 qTy), (kAI vBy cI 120 (upd qBy (0 + (qTy 0)).toNatClampNeg b1))]) hP hD rfl
          replace hD := hP.2
          replace hP := hP.1
          refine lv_aload_n hx₀ hb dX12_type_72 rfl (lv_at hl 0 rfl) ?_
          refine va_get (D := (dC, dI)) (ci := 11) (v := .ref vTy) (C := RX12) (T := TX12) (N := 30) hx₀ hb hts inlX12 hown hK hP 0 rfl rfl 6 (by decide) (hts (.fieldLink RX12 25 "BittenStickModel" "typed" "[I") wd_120) (fun _ h9 => h9) rfl dX12_type_73 ?_
          refine lv_iload_n hx₀ hb dX12_type_76 rfl (lv_at hl 1 rfl) ?_
          refine lv_dup2_11 hx₀ hb dX12_type_77 rfl rfl ?_
          refine va_iald hx₀ hb hK hP 1 0 rfl rfl (by unfold vp_in; decide +kernel) dX12_type_78 ?_
          refine k_topi (v := qTy 0) rfl ?_
          refine lv_iconst (v := 1) hx₀ hb dX12_type_79 (by decide +kernel) ?_
          refine lv_iadd hx₀ hb dX12_type_80 ?_
          refine va_iast hx₀ hb hK hP hD hS 1 0 rfl rfl (by unfold vp_in; decide +kernel) dX12_type_81 ?_
          clear hP hD hS
          intro H locs hP hD hS
          replace hP := k_w2 (wt := [(kX12 hm vFo vSi vIt vMo la vBy vTy mi vMi pn vPs gn vGs fn vFt le vTo kn fe en ca an co vPr vSt vFn sn vSg vAl dr), (kAI vTy cI 3 (upd qTy (0 : Int32).toNatClampNeg ((qTy 0) + 1))), (kAI vBy cI 120 (upd qBy (0 + (qTy 0)).toNatClampNeg b1))]) hP hD rfl
          replace hD := hP.2
          replace hP := hP.1
          refine lv_aload_n hx₀ hb dX12_type_82 rfl (lv_at hl 0 rfl) ?_
          refine va_get (D := (dC, dI)) (ci := 11) (v := .ref vTy) (C := RX12) (T := TX12) (N := 30) hx₀ hb hts inlX12 hown hK hP 0 rfl rfl 6 (by decide) (hts (.fieldLink RX12 25 "BittenStickModel" "typed" "[I") wd_120) (fun _ h9 => h9) rfl dX12_type_83 ?_
          refine lv_iload_n hx₀ hb dX12_type_86 rfl (lv_at hl 1 rfl) ?_
          refine va_iald hx₀ hb hK hP 1 0 rfl rfl (by unfold vp_in; decide +kernel) dX12_type_87 ?_
          refine k_topi (v := (upd qTy (0 : Int32).toNatClampNeg ((qTy 0) + 1)) 0) rfl ?_
          obtain ⟨hP9, hD9⟩ := k_c2 (wc := [(kX12 hm vFo vSi vIt vMo la vBy vTy mi vMi pn vPs gn vGs fn vFt le vTo kn fe en ca an co vPr vSt vFn sn vSg vAl dr), (kAI vTy cI 3 (upd qTy (0 : Int32).toNatClampNeg ((qTy 0) + 1))), (kAI vBy cI 120 (upd qBy (0 + (qTy 0)).toNatClampNeg b1))]) hP hD [0, 1, 2] (by decide +kernel) rfl
          exact W.iret (v := (upd qTy (0 : Int32).toNatClampNeg ((qTy 0) + 1)) 0) hx₀ hb hr (fun t₀ ht hW => ⟨⟨(upd qTy (0 : Int32).toNatClampNeg ((qTy 0) + 1)) 0, (k_fn [], k_fa [upd qTy (0 : Int32).toNatClampNeg ((qTy 0) + 1), upd qBy (0 + (qTy 0)).toNatClampNeg b1], k_fl [], k_fL [], k_fp []), rfl, ⟨(show (((qTy 0) + 1) : Int32) = if 0 ≤ (0 : Int32) ∧ (0 : Int32) ≤ 2 ∧ 0 ≤ b1 ∧ b1 ≤ 255 then (if (0 : Int32) = 0 then (if qTy 0 = 24 then -4 else qTy 0 + 1) else if (0 : Int32) = 1 then (if qTy 1 = 39 then -4 else qTy 1 + 1) else if qTy 2 = 23 then -4 else qTy 2 + 1) else -2 from (((((if_neg (c_6)).symm).trans (if_pos (rfl)).symm)).trans (if_pos (show 0 ≤ (0 : Int32) ∧ (0 : Int32) ≤ 2 ∧ 0 ≤ b1 ∧ b1 ≤ 255 from ⟨(by decide), (by decide), ((k_64 (a := b1) (l := 0) (h := 255) (by decide) (by decide)).mp c_4).1, ((k_64 (a := b1) (l := 0) (h := 255) (by decide) (by decide)).mp c_4).2⟩)).symm)), (lf_g_type_2 (qTy 0) hh0 c_6), hh1, hh2, (show ((qTy 0) + 1) = if (0 : Int32) = 0 ∧ 0 ≤ b1 ∧ b1 ≤ 255 ∧ ¬ qTy 0 = 24 then qTy 0 + 1 else qTy 0 from (if_pos (show (0 : Int32) = 0 ∧ 0 ≤ b1 ∧ b1 ≤ 255 ∧ ¬ qTy 0 = 24 from ⟨rfl, ((k_64 (a := b1) (l := 0) (h := 255) (by decide) (by decide)).mp c_4).1, ((k_64 (a := b1) (l := 0) (h := 255) (by decide) (by decide)).mp c_4).2, c_6⟩)).symm), (show (qTy 1) = if (0 : Int32) = 1 ∧ 0 ≤ b1 ∧ b1 ≤ 255 ∧ ¬ qTy 1 = 39 then qTy 1 + 1 else qTy 1 from (if_neg (show ¬ ((0 : Int32) = 1 ∧ 0 ≤ b1 ∧ b1 ≤ 255 ∧ ¬ qTy 1 = 39) from (fun z => (fun z => absurd z (by decide)) z.1))).symm), (show (qTy 2) = if (0 : Int32) = 2 ∧ 0 ≤ b1 ∧ b1 ≤ 255 ∧ ¬ qTy 2 = 23 then qTy 2 + 1 else qTy 2 from (if_neg (show ¬ ((0 : Int32) = 2 ∧ 0 ≤ b1 ∧ b1 ≤ 255 ∧ ¬ qTy 2 = 23) from (fun z => (fun z => absurd z (by decide)) z.1))).symm), (by rw [kIx_0]; exact (if_pos (show ((0 : Int32) = 0 ∧ ¬ qTy 0 = 24 ∨ (0 : Int32) = 1 ∧ ¬ qTy 1 = 39 ∨ (0 : Int32) = 2 ∧ ¬ qTy 2 = 23) ∧ 0 ≤ b1 ∧ b1 ≤ 255 from ⟨(Or.inl (⟨rfl, c_6⟩)), ((k_64 (a := b1) (l := 0) (h := 255) (by decide) (by decide)).mp c_4).1, ((k_64 (a := b1) (l := 0) (h := 255) (by decide) (by decide)).mp c_4).2⟩)).symm)⟩, by rw [ht]; exact hP9, va_K.moved hW.alike hK, hD9⟩, hS.F ht⟩) hS.2.2 dX12_type_88
        · refine lv_bipush (v := (-4)) hx₀ hb dX12_type_52 (by decide +kernel) ?_
          obtain ⟨hP9, hD9⟩ := k_c2 (wc := [(kX12 hm vFo vSi vIt vMo la vBy vTy mi vMi pn vPs gn vGs fn vFt le vTo kn fe en ca an co vPr vSt vFn sn vSg vAl dr), (kAI vTy cI 3 qTy), (kAI vBy cI 120 qBy)]) hP hD [0, 1, 2] (by decide +kernel) rfl
          exact W.iret (v := (-4)) hx₀ hb hr (fun t₀ ht hW => ⟨⟨(-4), (k_fn [], k_fa [qTy, qBy], k_fl [], k_fL [], k_fp []), rfl, ⟨(show ((-4) : Int32) = if 0 ≤ (0 : Int32) ∧ (0 : Int32) ≤ 2 ∧ 0 ≤ b1 ∧ b1 ≤ 255 then (if (0 : Int32) = 0 then (if qTy 0 = 24 then -4 else qTy 0 + 1) else if (0 : Int32) = 1 then (if qTy 1 = 39 then -4 else qTy 1 + 1) else if qTy 2 = 23 then -4 else qTy 2 + 1) else -2 from (((((if_pos (c_6)).symm).trans (if_pos (rfl)).symm)).trans (if_pos (show 0 ≤ (0 : Int32) ∧ (0 : Int32) ≤ 2 ∧ 0 ≤ b1 ∧ b1 ≤ 255 from ⟨(by decide), (by decide), ((k_64 (a := b1) (l := 0) (h := 255) (by decide) (by decide)).mp c_4).1, ((k_64 (a := b1) (l := 0) (h := 255) (by decide) (by decide)).mp c_4).2⟩)).symm)), hh0, hh1, hh2, (show qTy 0 = if (0 : Int32) = 0 ∧ 0 ≤ b1 ∧ b1 ≤ 255 ∧ ¬ qTy 0 = 24 then qTy 0 + 1 else qTy 0 from (if_neg (show ¬ ((0 : Int32) = 0 ∧ 0 ≤ b1 ∧ b1 ≤ 255 ∧ ¬ qTy 0 = 24) from (fun z => (fun z => z c_6) z.2.2.2))).symm), (show qTy 1 = if (0 : Int32) = 1 ∧ 0 ≤ b1 ∧ b1 ≤ 255 ∧ ¬ qTy 1 = 39 then qTy 1 + 1 else qTy 1 from (if_neg (show ¬ ((0 : Int32) = 1 ∧ 0 ≤ b1 ∧ b1 ≤ 255 ∧ ¬ qTy 1 = 39) from (fun z => (fun z => absurd z (by decide)) z.1))).symm), (show qTy 2 = if (0 : Int32) = 2 ∧ 0 ≤ b1 ∧ b1 ≤ 255 ∧ ¬ qTy 2 = 23 then qTy 2 + 1 else qTy 2 from (if_neg (show ¬ ((0 : Int32) = 2 ∧ 0 ≤ b1 ∧ b1 ≤ 255 ∧ ¬ qTy 2 = 23) from (fun z => (fun z => absurd z (by decide)) z.1))).symm), (if_neg (show ¬ (((0 : Int32) = 0 ∧ ¬ qTy 0 = 24 ∨ (0 : Int32) = 1 ∧ ¬ qTy 1 = 39 ∨ (0 : Int32) = 2 ∧ ¬ qTy 2 = 23) ∧ 0 ≤ b1 ∧ b1 ≤ 255) from (fun z => (fun z => z.elim (fun z => (fun z => z c_6) z.2) (fun z => z.elim (fun z => (fun z => absurd z (by decide)) z.1) (fun z => (fun z => absurd z (by decide)) z.1))) z.1))).symm⟩, by rw [ht]; exact hP9, va_K.moved hW.alike hK, hD9⟩, hS.F ht⟩) hS.2.2 dX12_type_54
      by_cases c_7 : tt = 1
      · subst c_7
        refine lv_aload_n hx₀ hb dX12_type_22 rfl (lv_at hl 0 rfl) ?_
        refine va_get (D := (dC, dI)) (ci := 11) (v := .ref vTy) (C := RX12) (T := TX12) (N := 30) hx₀ hb hts inlX12 hown hK hP 0 rfl rfl 6 (by decide) (hts (.fieldLink RX12 25 "BittenStickModel" "typed" "[I") wd_120) (fun _ h9 => h9) rfl dX12_type_23 ?_
        refine lv_iload_n hx₀ hb dX12_type_26 rfl (lv_at hl 1 rfl) ?_
        refine va_iald hx₀ hb hK hP 1 0 rfl rfl (by unfold vp_in; decide +kernel) dX12_type_27 ?_
        refine k_topi (v := qTy 1) rfl ?_
        refine lv_iload_n hx₀ hb dX12_type_28 rfl (lv_at hl 1 rfl) ?_
        refine lv_if_ne (tgt := 37) hx₀ hb dX12_type_29 (by decide) (fun _ => ?_) (fun c9 => absurd c9 (by decide +kernel))
        refine lv_iload_n hx₀ hb dX12_type_37 rfl (lv_at hl 1 rfl) ?_
        refine lv_iconst (v := 1) hx₀ hb dX12_type_38 (by decide +kernel) ?_
        refine lv_icmp_ne (tgt := 47) hx₀ hb dX12_type_39 (by decide) (fun c9 => absurd (by decide +kernel) c9) (fun _ => ?_)
        refine lv_bipush (v := 39) hx₀ hb dX12_type_42 (by decide +kernel) ?_
        refine lv_goto (tgt := 49) hx₀ hb dX12_type_44 (by decide) ?_
        refine lv_icmp_ne (tgt := 55) hx₀ hb dX12_type_49 (by decide) (fun c_8 => ?_) (fun c_8 => ?_)
        · refine lv_aload_n hx₀ hb dX12_type_55 rfl (lv_at hl 0 rfl) ?_
          refine va_get (D := (dC, dI)) (ci := 11) (v := .ref vBy) (C := RX12) (T := TX12) (N := 30) hx₀ hb hts inlX12 hown hK hP 0 rfl rfl 5 (by decide) (hts (.fieldLink RX12 22 "BittenStickModel" "bytes" "[I") wd_119) (fun _ h9 => h9) rfl dX12_type_56 ?_
          refine lv_bipush (v := 40) hx₀ hb dX12_type_59 (by decide +kernel) ?_
          refine lv_iload_n hx₀ hb dX12_type_61 rfl (lv_at hl 1 rfl) ?_
          refine lv_imul hx₀ hb dX12_type_62 ?_
          refine k_topi (v := 40) (by decide +kernel) ?_
          refine lv_aload_n hx₀ hb dX12_type_63 rfl (lv_at hl 0 rfl) ?_
          refine va_get (D := (dC, dI)) (ci := 11) (v := .ref vTy) (C := RX12) (T := TX12) (N := 30) hx₀ hb hts inlX12 hown hK hP 0 rfl rfl 6 (by decide) (hts (.fieldLink RX12 25 "BittenStickModel" "typed" "[I") wd_120) (fun _ h9 => h9) rfl dX12_type_64 ?_
          refine lv_iload_n hx₀ hb dX12_type_67 rfl (lv_at hl 1 rfl) ?_
          refine va_iald hx₀ hb hK hP 1 0 rfl rfl (by unfold vp_in; decide +kernel) dX12_type_68 ?_
          refine k_topi (v := qTy 1) rfl ?_
          refine lv_iadd hx₀ hb dX12_type_69 ?_
          refine lv_iload_n hx₀ hb dX12_type_70 rfl (lv_at hl 2 rfl) ?_
          refine va_iast hx₀ hb hK hP hD hS 2 0 rfl rfl (vp_in_iff.mpr (lf_g_type_3 (qTy 1) hh1 c_8)) dX12_type_71 ?_
          clear hP hD hS
          intro H locs hP hD hS
          replace hP := k_w2 (wt := [(kX12 hm vFo vSi vIt vMo la vBy vTy mi vMi pn vPs gn vGs fn vFt le vTo kn fe en ca an co vPr vSt vFn sn vSg vAl dr), (kAI vTy cI 3 qTy), (kAI vBy cI 120 (upd qBy (40 + (qTy 1)).toNatClampNeg b1))]) hP hD rfl
          replace hD := hP.2
          replace hP := hP.1
          refine lv_aload_n hx₀ hb dX12_type_72 rfl (lv_at hl 0 rfl) ?_
          refine va_get (D := (dC, dI)) (ci := 11) (v := .ref vTy) (C := RX12) (T := TX12) (N := 30) hx₀ hb hts inlX12 hown hK hP 0 rfl rfl 6 (by decide) (hts (.fieldLink RX12 25 "BittenStickModel" "typed" "[I") wd_120) (fun _ h9 => h9) rfl dX12_type_73 ?_
          refine lv_iload_n hx₀ hb dX12_type_76 rfl (lv_at hl 1 rfl) ?_
          refine lv_dup2_11 hx₀ hb dX12_type_77 rfl rfl ?_
          refine va_iald hx₀ hb hK hP 1 0 rfl rfl (by unfold vp_in; decide +kernel) dX12_type_78 ?_
          refine k_topi (v := qTy 1) rfl ?_
          refine lv_iconst (v := 1) hx₀ hb dX12_type_79 (by decide +kernel) ?_
          refine lv_iadd hx₀ hb dX12_type_80 ?_
          refine va_iast hx₀ hb hK hP hD hS 1 0 rfl rfl (by unfold vp_in; decide +kernel) dX12_type_81 ?_
          clear hP hD hS
          intro H locs hP hD hS
          replace hP := k_w2 (wt := [(kX12 hm vFo vSi vIt vMo la vBy vTy mi vMi pn vPs gn vGs fn vFt le vTo kn fe en ca an co vPr vSt vFn sn vSg vAl dr), (kAI vTy cI 3 (upd qTy (1 : Int32).toNatClampNeg ((qTy 1) + 1))), (kAI vBy cI 120 (upd qBy (40 + (qTy 1)).toNatClampNeg b1))]) hP hD rfl
          replace hD := hP.2
          replace hP := hP.1
          refine lv_aload_n hx₀ hb dX12_type_82 rfl (lv_at hl 0 rfl) ?_
          refine va_get (D := (dC, dI)) (ci := 11) (v := .ref vTy) (C := RX12) (T := TX12) (N := 30) hx₀ hb hts inlX12 hown hK hP 0 rfl rfl 6 (by decide) (hts (.fieldLink RX12 25 "BittenStickModel" "typed" "[I") wd_120) (fun _ h9 => h9) rfl dX12_type_83 ?_
          refine lv_iload_n hx₀ hb dX12_type_86 rfl (lv_at hl 1 rfl) ?_
          refine va_iald hx₀ hb hK hP 1 0 rfl rfl (by unfold vp_in; decide +kernel) dX12_type_87 ?_
          refine k_topi (v := (upd qTy (1 : Int32).toNatClampNeg ((qTy 1) + 1)) 1) rfl ?_
          obtain ⟨hP9, hD9⟩ := k_c2 (wc := [(kX12 hm vFo vSi vIt vMo la vBy vTy mi vMi pn vPs gn vGs fn vFt le vTo kn fe en ca an co vPr vSt vFn sn vSg vAl dr), (kAI vTy cI 3 (upd qTy (1 : Int32).toNatClampNeg ((qTy 1) + 1))), (kAI vBy cI 120 (upd qBy (40 + (qTy 1)).toNatClampNeg b1))]) hP hD [0, 1, 2] (by decide +kernel) rfl
          exact W.iret (v := (upd qTy (1 : Int32).toNatClampNeg ((qTy 1) + 1)) 1) hx₀ hb hr (fun t₀ ht hW => ⟨⟨(upd qTy (1 : Int32).toNatClampNeg ((qTy 1) + 1)) 1, (k_fn [], k_fa [upd qTy (1 : Int32).toNatClampNeg ((qTy 1) + 1), upd qBy (40 + (qTy 1)).toNatClampNeg b1], k_fl [], k_fL [], k_fp []), rfl, ⟨(show (((qTy 1) + 1) : Int32) = if 0 ≤ (1 : Int32) ∧ (1 : Int32) ≤ 2 ∧ 0 ≤ b1 ∧ b1 ≤ 255 then (if (1 : Int32) = 0 then (if qTy 0 = 24 then -4 else qTy 0 + 1) else if (1 : Int32) = 1 then (if qTy 1 = 39 then -4 else qTy 1 + 1) else if qTy 2 = 23 then -4 else qTy 2 + 1) else -2 from (((((((if_neg (c_8)).symm).trans (if_pos (rfl)).symm)).trans (if_neg (show ¬ ((1 : Int32) = 0) from (fun z => absurd z (by decide)))).symm)).trans (if_pos (show 0 ≤ (1 : Int32) ∧ (1 : Int32) ≤ 2 ∧ 0 ≤ b1 ∧ b1 ≤ 255 from ⟨(by decide), (by decide), ((k_64 (a := b1) (l := 0) (h := 255) (by decide) (by decide)).mp c_4).1, ((k_64 (a := b1) (l := 0) (h := 255) (by decide) (by decide)).mp c_4).2⟩)).symm)), hh0, (lf_g_type_4 (qTy 1) hh1 c_8), hh2, (show (qTy 0) = if (1 : Int32) = 0 ∧ 0 ≤ b1 ∧ b1 ≤ 255 ∧ ¬ qTy 0 = 24 then qTy 0 + 1 else qTy 0 from (if_neg (show ¬ ((1 : Int32) = 0 ∧ 0 ≤ b1 ∧ b1 ≤ 255 ∧ ¬ qTy 0 = 24) from (fun z => (fun z => absurd z (by decide)) z.1))).symm), (show ((qTy 1) + 1) = if (1 : Int32) = 1 ∧ 0 ≤ b1 ∧ b1 ≤ 255 ∧ ¬ qTy 1 = 39 then qTy 1 + 1 else qTy 1 from (if_pos (show (1 : Int32) = 1 ∧ 0 ≤ b1 ∧ b1 ≤ 255 ∧ ¬ qTy 1 = 39 from ⟨rfl, ((k_64 (a := b1) (l := 0) (h := 255) (by decide) (by decide)).mp c_4).1, ((k_64 (a := b1) (l := 0) (h := 255) (by decide) (by decide)).mp c_4).2, c_8⟩)).symm), (show (qTy 2) = if (1 : Int32) = 2 ∧ 0 ≤ b1 ∧ b1 ≤ 255 ∧ ¬ qTy 2 = 23 then qTy 2 + 1 else qTy 2 from (if_neg (show ¬ ((1 : Int32) = 2 ∧ 0 ≤ b1 ∧ b1 ≤ 255 ∧ ¬ qTy 2 = 23) from (fun z => (fun z => absurd z (by decide)) z.1))).symm), (by rw [kIx_1 (hh1)]; exact (if_pos (show ((1 : Int32) = 0 ∧ ¬ qTy 0 = 24 ∨ (1 : Int32) = 1 ∧ ¬ qTy 1 = 39 ∨ (1 : Int32) = 2 ∧ ¬ qTy 2 = 23) ∧ 0 ≤ b1 ∧ b1 ≤ 255 from ⟨(Or.inr (Or.inl (⟨rfl, c_8⟩))), ((k_64 (a := b1) (l := 0) (h := 255) (by decide) (by decide)).mp c_4).1, ((k_64 (a := b1) (l := 0) (h := 255) (by decide) (by decide)).mp c_4).2⟩)).symm)⟩, by rw [ht]; exact hP9, va_K.moved hW.alike hK, hD9⟩, hS.F ht⟩) hS.2.2 dX12_type_88
        · refine lv_bipush (v := (-4)) hx₀ hb dX12_type_52 (by decide +kernel) ?_
          obtain ⟨hP9, hD9⟩ := k_c2 (wc := [(kX12 hm vFo vSi vIt vMo la vBy vTy mi vMi pn vPs gn vGs fn vFt le vTo kn fe en ca an co vPr vSt vFn sn vSg vAl dr), (kAI vTy cI 3 qTy), (kAI vBy cI 120 qBy)]) hP hD [0, 1, 2] (by decide +kernel) rfl
          exact W.iret (v := (-4)) hx₀ hb hr (fun t₀ ht hW => ⟨⟨(-4), (k_fn [], k_fa [qTy, qBy], k_fl [], k_fL [], k_fp []), rfl, ⟨(show ((-4) : Int32) = if 0 ≤ (1 : Int32) ∧ (1 : Int32) ≤ 2 ∧ 0 ≤ b1 ∧ b1 ≤ 255 then (if (1 : Int32) = 0 then (if qTy 0 = 24 then -4 else qTy 0 + 1) else if (1 : Int32) = 1 then (if qTy 1 = 39 then -4 else qTy 1 + 1) else if qTy 2 = 23 then -4 else qTy 2 + 1) else -2 from (((((((if_pos (c_8)).symm).trans (if_pos (rfl)).symm)).trans (if_neg (show ¬ ((1 : Int32) = 0) from (fun z => absurd z (by decide)))).symm)).trans (if_pos (show 0 ≤ (1 : Int32) ∧ (1 : Int32) ≤ 2 ∧ 0 ≤ b1 ∧ b1 ≤ 255 from ⟨(by decide), (by decide), ((k_64 (a := b1) (l := 0) (h := 255) (by decide) (by decide)).mp c_4).1, ((k_64 (a := b1) (l := 0) (h := 255) (by decide) (by decide)).mp c_4).2⟩)).symm)), hh0, hh1, hh2, (show qTy 0 = if (1 : Int32) = 0 ∧ 0 ≤ b1 ∧ b1 ≤ 255 ∧ ¬ qTy 0 = 24 then qTy 0 + 1 else qTy 0 from (if_neg (show ¬ ((1 : Int32) = 0 ∧ 0 ≤ b1 ∧ b1 ≤ 255 ∧ ¬ qTy 0 = 24) from (fun z => (fun z => absurd z (by decide)) z.1))).symm), (show qTy 1 = if (1 : Int32) = 1 ∧ 0 ≤ b1 ∧ b1 ≤ 255 ∧ ¬ qTy 1 = 39 then qTy 1 + 1 else qTy 1 from (if_neg (show ¬ ((1 : Int32) = 1 ∧ 0 ≤ b1 ∧ b1 ≤ 255 ∧ ¬ qTy 1 = 39) from (fun z => (fun z => z c_8) z.2.2.2))).symm), (show qTy 2 = if (1 : Int32) = 2 ∧ 0 ≤ b1 ∧ b1 ≤ 255 ∧ ¬ qTy 2 = 23 then qTy 2 + 1 else qTy 2 from (if_neg (show ¬ ((1 : Int32) = 2 ∧ 0 ≤ b1 ∧ b1 ≤ 255 ∧ ¬ qTy 2 = 23) from (fun z => (fun z => absurd z (by decide)) z.1))).symm), (if_neg (show ¬ (((1 : Int32) = 0 ∧ ¬ qTy 0 = 24 ∨ (1 : Int32) = 1 ∧ ¬ qTy 1 = 39 ∨ (1 : Int32) = 2 ∧ ¬ qTy 2 = 23) ∧ 0 ≤ b1 ∧ b1 ≤ 255) from (fun z => (fun z => z.elim (fun z => (fun z => absurd z (by decide)) z.1) (fun z => z.elim (fun z => (fun z => z c_8) z.2) (fun z => (fun z => absurd z (by decide)) z.1))) z.1))).symm⟩, by rw [ht]; exact hP9, va_K.moved hW.alike hK, hD9⟩, hS.F ht⟩) hS.2.2 dX12_type_54
      by_cases c_9 : tt = 2
      · subst c_9
        refine lv_aload_n hx₀ hb dX12_type_22 rfl (lv_at hl 0 rfl) ?_
        refine va_get (D := (dC, dI)) (ci := 11) (v := .ref vTy) (C := RX12) (T := TX12) (N := 30) hx₀ hb hts inlX12 hown hK hP 0 rfl rfl 6 (by decide) (hts (.fieldLink RX12 25 "BittenStickModel" "typed" "[I") wd_120) (fun _ h9 => h9) rfl dX12_type_23 ?_
        refine lv_iload_n hx₀ hb dX12_type_26 rfl (lv_at hl 1 rfl) ?_
        refine va_iald hx₀ hb hK hP 1 0 rfl rfl (by unfold vp_in; decide +kernel) dX12_type_27 ?_
        refine k_topi (v := qTy 2) rfl ?_
        refine lv_iload_n hx₀ hb dX12_type_28 rfl (lv_at hl 1 rfl) ?_
        refine lv_if_ne (tgt := 37) hx₀ hb dX12_type_29 (by decide) (fun _ => ?_) (fun c9 => absurd c9 (by decide +kernel))
        refine lv_iload_n hx₀ hb dX12_type_37 rfl (lv_at hl 1 rfl) ?_
        refine lv_iconst (v := 1) hx₀ hb dX12_type_38 (by decide +kernel) ?_
        refine lv_icmp_ne (tgt := 47) hx₀ hb dX12_type_39 (by decide) (fun _ => ?_) (fun c9 => absurd c9 (by decide +kernel))
        refine lv_bipush (v := 23) hx₀ hb dX12_type_47 (by decide +kernel) ?_
        refine lv_icmp_ne (tgt := 55) hx₀ hb dX12_type_49 (by decide) (fun c_10 => ?_) (fun c_10 => ?_)
        · refine lv_aload_n hx₀ hb dX12_type_55 rfl (lv_at hl 0 rfl) ?_
          refine va_get (D := (dC, dI)) (ci := 11) (v := .ref vBy) (C := RX12) (T := TX12) (N := 30) hx₀ hb hts inlX12 hown hK hP 0 rfl rfl 5 (by decide) (hts (.fieldLink RX12 22 "BittenStickModel" "bytes" "[I") wd_119) (fun _ h9 => h9) rfl dX12_type_56 ?_
          refine lv_bipush (v := 40) hx₀ hb dX12_type_59 (by decide +kernel) ?_
          refine lv_iload_n hx₀ hb dX12_type_61 rfl (lv_at hl 1 rfl) ?_
          refine lv_imul hx₀ hb dX12_type_62 ?_
          refine k_topi (v := 80) (by decide +kernel) ?_
          refine lv_aload_n hx₀ hb dX12_type_63 rfl (lv_at hl 0 rfl) ?_
          refine va_get (D := (dC, dI)) (ci := 11) (v := .ref vTy) (C := RX12) (T := TX12) (N := 30) hx₀ hb hts inlX12 hown hK hP 0 rfl rfl 6 (by decide) (hts (.fieldLink RX12 25 "BittenStickModel" "typed" "[I") wd_120) (fun _ h9 => h9) rfl dX12_type_64 ?_
          refine lv_iload_n hx₀ hb dX12_type_67 rfl (lv_at hl 1 rfl) ?_
          refine va_iald hx₀ hb hK hP 1 0 rfl rfl (by unfold vp_in; decide +kernel) dX12_type_68 ?_
          refine k_topi (v := qTy 2) rfl ?_
          refine lv_iadd hx₀ hb dX12_type_69 ?_
          refine lv_iload_n hx₀ hb dX12_type_70 rfl (lv_at hl 2 rfl) ?_
          refine va_iast hx₀ hb hK hP hD hS 2 0 rfl rfl (vp_in_iff.mpr (lf_g_type_5 (qTy 2) hh2 c_10)) dX12_type_71 ?_
          clear hP hD hS
          intro H locs hP hD hS
          replace hP := k_w2 (wt := [(kX12 hm vFo vSi vIt vMo la vBy vTy mi vMi pn vPs gn vGs fn vFt le vTo kn fe en ca an co vPr vSt vFn sn vSg vAl dr), (kAI vTy cI 3 qTy), (kAI vBy cI 120 (upd qBy (80 + (qTy 2)).toNatClampNeg b1))]) hP hD rfl
          replace hD := hP.2
          replace hP := hP.1
          refine lv_aload_n hx₀ hb dX12_type_72 rfl (lv_at hl 0 rfl) ?_
          refine va_get (D := (dC, dI)) (ci := 11) (v := .ref vTy) (C := RX12) (T := TX12) (N := 30) hx₀ hb hts inlX12 hown hK hP 0 rfl rfl 6 (by decide) (hts (.fieldLink RX12 25 "BittenStickModel" "typed" "[I") wd_120) (fun _ h9 => h9) rfl dX12_type_73 ?_
          refine lv_iload_n hx₀ hb dX12_type_76 rfl (lv_at hl 1 rfl) ?_
          refine lv_dup2_11 hx₀ hb dX12_type_77 rfl rfl ?_
          refine va_iald hx₀ hb hK hP 1 0 rfl rfl (by unfold vp_in; decide +kernel) dX12_type_78 ?_
          refine k_topi (v := qTy 2) rfl ?_
          refine lv_iconst (v := 1) hx₀ hb dX12_type_79 (by decide +kernel) ?_
          refine lv_iadd hx₀ hb dX12_type_80 ?_
          refine va_iast hx₀ hb hK hP hD hS 1 0 rfl rfl (by unfold vp_in; decide +kernel) dX12_type_81 ?_
          clear hP hD hS
          intro H locs hP hD hS
          replace hP := k_w2 (wt := [(kX12 hm vFo vSi vIt vMo la vBy vTy mi vMi pn vPs gn vGs fn vFt le vTo kn fe en ca an co vPr vSt vFn sn vSg vAl dr), (kAI vTy cI 3 (upd qTy (2 : Int32).toNatClampNeg ((qTy 2) + 1))), (kAI vBy cI 120 (upd qBy (80 + (qTy 2)).toNatClampNeg b1))]) hP hD rfl
          replace hD := hP.2
          replace hP := hP.1
          refine lv_aload_n hx₀ hb dX12_type_82 rfl (lv_at hl 0 rfl) ?_
          refine va_get (D := (dC, dI)) (ci := 11) (v := .ref vTy) (C := RX12) (T := TX12) (N := 30) hx₀ hb hts inlX12 hown hK hP 0 rfl rfl 6 (by decide) (hts (.fieldLink RX12 25 "BittenStickModel" "typed" "[I") wd_120) (fun _ h9 => h9) rfl dX12_type_83 ?_
          refine lv_iload_n hx₀ hb dX12_type_86 rfl (lv_at hl 1 rfl) ?_
          refine va_iald hx₀ hb hK hP 1 0 rfl rfl (by unfold vp_in; decide +kernel) dX12_type_87 ?_
          refine k_topi (v := (upd qTy (2 : Int32).toNatClampNeg ((qTy 2) + 1)) 2) rfl ?_
          obtain ⟨hP9, hD9⟩ := k_c2 (wc := [(kX12 hm vFo vSi vIt vMo la vBy vTy mi vMi pn vPs gn vGs fn vFt le vTo kn fe en ca an co vPr vSt vFn sn vSg vAl dr), (kAI vTy cI 3 (upd qTy (2 : Int32).toNatClampNeg ((qTy 2) + 1))), (kAI vBy cI 120 (upd qBy (80 + (qTy 2)).toNatClampNeg b1))]) hP hD [0, 1, 2] (by decide +kernel) rfl
          exact W.iret (v := (upd qTy (2 : Int32).toNatClampNeg ((qTy 2) + 1)) 2) hx₀ hb hr (fun t₀ ht hW => ⟨⟨(upd qTy (2 : Int32).toNatClampNeg ((qTy 2) + 1)) 2, (k_fn [], k_fa [upd qTy (2 : Int32).toNatClampNeg ((qTy 2) + 1), upd qBy (80 + (qTy 2)).toNatClampNeg b1], k_fl [], k_fL [], k_fp []), rfl, ⟨(show (((qTy 2) + 1) : Int32) = if 0 ≤ (2 : Int32) ∧ (2 : Int32) ≤ 2 ∧ 0 ≤ b1 ∧ b1 ≤ 255 then (if (2 : Int32) = 0 then (if qTy 0 = 24 then -4 else qTy 0 + 1) else if (2 : Int32) = 1 then (if qTy 1 = 39 then -4 else qTy 1 + 1) else if qTy 2 = 23 then -4 else qTy 2 + 1) else -2 from (((((((if_neg (c_10)).symm).trans (if_neg (show ¬ ((2 : Int32) = 1) from (fun z => absurd z (by decide)))).symm)).trans (if_neg (show ¬ ((2 : Int32) = 0) from (fun z => absurd z (by decide)))).symm)).trans (if_pos (show 0 ≤ (2 : Int32) ∧ (2 : Int32) ≤ 2 ∧ 0 ≤ b1 ∧ b1 ≤ 255 from ⟨(by decide), (by decide), ((k_64 (a := b1) (l := 0) (h := 255) (by decide) (by decide)).mp c_4).1, ((k_64 (a := b1) (l := 0) (h := 255) (by decide) (by decide)).mp c_4).2⟩)).symm)), hh0, hh1, (lf_g_type_6 (qTy 2) hh2 c_10), (show (qTy 0) = if (2 : Int32) = 0 ∧ 0 ≤ b1 ∧ b1 ≤ 255 ∧ ¬ qTy 0 = 24 then qTy 0 + 1 else qTy 0 from (if_neg (show ¬ ((2 : Int32) = 0 ∧ 0 ≤ b1 ∧ b1 ≤ 255 ∧ ¬ qTy 0 = 24) from (fun z => (fun z => absurd z (by decide)) z.1))).symm), (show (qTy 1) = if (2 : Int32) = 1 ∧ 0 ≤ b1 ∧ b1 ≤ 255 ∧ ¬ qTy 1 = 39 then qTy 1 + 1 else qTy 1 from (if_neg (show ¬ ((2 : Int32) = 1 ∧ 0 ≤ b1 ∧ b1 ≤ 255 ∧ ¬ qTy 1 = 39) from (fun z => (fun z => absurd z (by decide)) z.1))).symm), (show ((qTy 2) + 1) = if (2 : Int32) = 2 ∧ 0 ≤ b1 ∧ b1 ≤ 255 ∧ ¬ qTy 2 = 23 then qTy 2 + 1 else qTy 2 from (if_pos (show (2 : Int32) = 2 ∧ 0 ≤ b1 ∧ b1 ≤ 255 ∧ ¬ qTy 2 = 23 from ⟨rfl, ((k_64 (a := b1) (l := 0) (h := 255) (by decide) (by decide)).mp c_4).1, ((k_64 (a := b1) (l := 0) (h := 255) (by decide) (by decide)).mp c_4).2, c_10⟩)).symm), (by rw [kIx_2 (hh2)]; exact (if_pos (show ((2 : Int32) = 0 ∧ ¬ qTy 0 = 24 ∨ (2 : Int32) = 1 ∧ ¬ qTy 1 = 39 ∨ (2 : Int32) = 2 ∧ ¬ qTy 2 = 23) ∧ 0 ≤ b1 ∧ b1 ≤ 255 from ⟨(Or.inr (Or.inr (⟨rfl, c_10⟩))), ((k_64 (a := b1) (l := 0) (h := 255) (by decide) (by decide)).mp c_4).1, ((k_64 (a := b1) (l := 0) (h := 255) (by decide) (by decide)).mp c_4).2⟩)).symm)⟩, by rw [ht]; exact hP9, va_K.moved hW.alike hK, hD9⟩, hS.F ht⟩) hS.2.2 dX12_type_88
        · refine lv_bipush (v := (-4)) hx₀ hb dX12_type_52 (by decide +kernel) ?_
          obtain ⟨hP9, hD9⟩ := k_c2 (wc := [(kX12 hm vFo vSi vIt vMo la vBy vTy mi vMi pn vPs gn vGs fn vFt le vTo kn fe en ca an co vPr vSt vFn sn vSg vAl dr), (kAI vTy cI 3 qTy), (kAI vBy cI 120 qBy)]) hP hD [0, 1, 2] (by decide +kernel) rfl
          exact W.iret (v := (-4)) hx₀ hb hr (fun t₀ ht hW => ⟨⟨(-4), (k_fn [], k_fa [qTy, qBy], k_fl [], k_fL [], k_fp []), rfl, ⟨(show ((-4) : Int32) = if 0 ≤ (2 : Int32) ∧ (2 : Int32) ≤ 2 ∧ 0 ≤ b1 ∧ b1 ≤ 255 then (if (2 : Int32) = 0 then (if qTy 0 = 24 then -4 else qTy 0 + 1) else if (2 : Int32) = 1 then (if qTy 1 = 39 then -4 else qTy 1 + 1) else if qTy 2 = 23 then -4 else qTy 2 + 1) else -2 from (((((((if_pos (c_10)).symm).trans (if_neg (show ¬ ((2 : Int32) = 1) from (fun z => absurd z (by decide)))).symm)).trans (if_neg (show ¬ ((2 : Int32) = 0) from (fun z => absurd z (by decide)))).symm)).trans (if_pos (show 0 ≤ (2 : Int32) ∧ (2 : Int32) ≤ 2 ∧ 0 ≤ b1 ∧ b1 ≤ 255 from ⟨(by decide), (by decide), ((k_64 (a := b1) (l := 0) (h := 255) (by decide) (by decide)).mp c_4).1, ((k_64 (a := b1) (l := 0) (h := 255) (by decide) (by decide)).mp c_4).2⟩)).symm)), hh0, hh1, hh2, (show qTy 0 = if (2 : Int32) = 0 ∧ 0 ≤ b1 ∧ b1 ≤ 255 ∧ ¬ qTy 0 = 24 then qTy 0 + 1 else qTy 0 from (if_neg (show ¬ ((2 : Int32) = 0 ∧ 0 ≤ b1 ∧ b1 ≤ 255 ∧ ¬ qTy 0 = 24) from (fun z => (fun z => absurd z (by decide)) z.1))).symm), (show qTy 1 = if (2 : Int32) = 1 ∧ 0 ≤ b1 ∧ b1 ≤ 255 ∧ ¬ qTy 1 = 39 then qTy 1 + 1 else qTy 1 from (if_neg (show ¬ ((2 : Int32) = 1 ∧ 0 ≤ b1 ∧ b1 ≤ 255 ∧ ¬ qTy 1 = 39) from (fun z => (fun z => absurd z (by decide)) z.1))).symm), (show qTy 2 = if (2 : Int32) = 2 ∧ 0 ≤ b1 ∧ b1 ≤ 255 ∧ ¬ qTy 2 = 23 then qTy 2 + 1 else qTy 2 from (if_neg (show ¬ ((2 : Int32) = 2 ∧ 0 ≤ b1 ∧ b1 ≤ 255 ∧ ¬ qTy 2 = 23) from (fun z => (fun z => z c_10) z.2.2.2))).symm), (if_neg (show ¬ (((2 : Int32) = 0 ∧ ¬ qTy 0 = 24 ∨ (2 : Int32) = 1 ∧ ¬ qTy 1 = 39 ∨ (2 : Int32) = 2 ∧ ¬ qTy 2 = 23) ∧ 0 ≤ b1 ∧ b1 ≤ 255) from (fun z => (fun z => z.elim (fun z => (fun z => absurd z (by decide)) z.1) (fun z => z.elim (fun z => (fun z => absurd z (by decide)) z.1) (fun z => (fun z => z c_10) z.2))) z.1))).symm⟩, by rw [ht]; exact hP9, va_K.moved hW.alike hK, hD9⟩, hS.F ht⟩) hS.2.2 dX12_type_54
      exact (lf_g_type_7 (qTy 0) (qTy 1) (qTy 2) tt b1 hh0 hh1 hh2 c_2 c_4 c_5 c_7 c_9).elim
    rw [if_neg c_4] at hw
    refine k_topi (v := 0) hw ?_
    refine lv_if_ne (tgt := 22) hx₀ hb dX12_type_16 (by decide) (fun c9 => absurd (by decide +kernel) c9) (fun _ => ?_)
    refine lv_bipush (v := (-2)) hx₀ hb dX12_type_19 (by decide +kernel) ?_
    obtain ⟨hP9, hD9⟩ := k_c2 (wc := [(kX12 hm vFo vSi vIt vMo la vBy vTy mi vMi pn vPs gn vGs fn vFt le vTo kn fe en ca an co vPr vSt vFn sn vSg vAl dr), (kAI vTy cI 3 qTy), (kAI vBy cI 120 qBy)]) hP hD [0, 1, 2] (by decide +kernel) rfl
    exact W.iret (v := (-2)) hx₀ hb hr (fun t₀ ht hW => ⟨⟨(-2), (k_fn [], k_fa [qTy, qBy], k_fl [], k_fL [], k_fp []), rfl, ⟨(show ((-2) : Int32) = if 0 ≤ tt ∧ tt ≤ 2 ∧ 0 ≤ b1 ∧ b1 ≤ 255 then (if tt = 0 then (if qTy 0 = 24 then -4 else qTy 0 + 1) else if tt = 1 then (if qTy 1 = 39 then -4 else qTy 1 + 1) else if qTy 2 = 23 then -4 else qTy 2 + 1) else -2 from (if_neg (show ¬ (0 ≤ tt ∧ tt ≤ 2 ∧ 0 ≤ b1 ∧ b1 ≤ 255) from (fun z => (fun z => c_4 ((k_64 (a := b1) (l := 0) (h := 255) (by decide) (by decide)).mpr z)) (And.intro z.2.2.1 z.2.2.2)))).symm), hh0, hh1, hh2, (show qTy 0 = if tt = 0 ∧ 0 ≤ b1 ∧ b1 ≤ 255 ∧ ¬ qTy 0 = 24 then qTy 0 + 1 else qTy 0 from (if_neg (show ¬ (tt = 0 ∧ 0 ≤ b1 ∧ b1 ≤ 255 ∧ ¬ qTy 0 = 24) from (fun z => (fun z => c_4 ((k_64 (a := b1) (l := 0) (h := 255) (by decide) (by decide)).mpr z)) (And.intro z.2.1 z.2.2.1)))).symm), (show qTy 1 = if tt = 1 ∧ 0 ≤ b1 ∧ b1 ≤ 255 ∧ ¬ qTy 1 = 39 then qTy 1 + 1 else qTy 1 from (if_neg (show ¬ (tt = 1 ∧ 0 ≤ b1 ∧ b1 ≤ 255 ∧ ¬ qTy 1 = 39) from (fun z => (fun z => c_4 ((k_64 (a := b1) (l := 0) (h := 255) (by decide) (by decide)).mpr z)) (And.intro z.2.1 z.2.2.1)))).symm), (show qTy 2 = if tt = 2 ∧ 0 ≤ b1 ∧ b1 ≤ 255 ∧ ¬ qTy 2 = 23 then qTy 2 + 1 else qTy 2 from (if_neg (show ¬ (tt = 2 ∧ 0 ≤ b1 ∧ b1 ≤ 255 ∧ ¬ qTy 2 = 23) from (fun z => (fun z => c_4 ((k_64 (a := b1) (l := 0) (h := 255) (by decide) (by decide)).mpr z)) (And.intro z.2.1 z.2.2.1)))).symm), (if_neg (show ¬ ((tt = 0 ∧ ¬ qTy 0 = 24 ∨ tt = 1 ∧ ¬ qTy 1 = 39 ∨ tt = 2 ∧ ¬ qTy 2 = 23) ∧ 0 ≤ b1 ∧ b1 ≤ 255) from (fun z => (fun z => c_4 ((k_64 (a := b1) (l := 0) (h := 255) (by decide) (by decide)).mpr z)) (And.intro z.2.1 z.2.2)))).symm⟩, by rw [ht]; exact hP9, va_K.moved hW.alike hK, hD9⟩, hS.F ht⟩) hS.2.2 dX12_type_21
  rw [if_neg c_2] at hw
  refine k_topi (v := 0) hw ?_
  refine lv_if_eq (tgt := 19) hx₀ hb dX12_type_4 (by decide) (fun _ => ?_) (fun c9 => absurd (by decide +kernel) c9)
  refine lv_bipush (v := (-2)) hx₀ hb dX12_type_19 (by decide +kernel) ?_
  obtain ⟨hP9, hD9⟩ := k_c2 (wc := [(kX12 hm vFo vSi vIt vMo la vBy vTy mi vMi pn vPs gn vGs fn vFt le vTo kn fe en ca an co vPr vSt vFn sn vSg vAl dr), (kAI vTy cI 3 qTy), (kAI vBy cI 120 qBy)]) hP hD [0, 1, 2] (by decide +kernel) rfl
  exact W.iret (v := (-2)) hx₀ hb hr (fun t₀ ht hW => ⟨⟨(-2), (k_fn [], k_fa [qTy, qBy], k_fl [], k_fL [], k_fp []), rfl, ⟨(show ((-2) : Int32) = if 0 ≤ tt ∧ tt ≤ 2 ∧ 0 ≤ b1 ∧ b1 ≤ 255 then (if tt = 0 then (if qTy 0 = 24 then -4 else qTy 0 + 1) else if tt = 1 then (if qTy 1 = 39 then -4 else qTy 1 + 1) else if qTy 2 = 23 then -4 else qTy 2 + 1) else -2 from (if_neg (show ¬ (0 ≤ tt ∧ tt ≤ 2 ∧ 0 ≤ b1 ∧ b1 ≤ 255) from (fun z => c_2 (And.intro z.1 z.2.1)))).symm), hh0, hh1, hh2, (show qTy 0 = if tt = 0 ∧ 0 ≤ b1 ∧ b1 ≤ 255 ∧ ¬ qTy 0 = 24 then qTy 0 + 1 else qTy 0 from (if_neg (lf_g_type_8 (qTy 0) tt b1 hh0 c_2)).symm), (show qTy 1 = if tt = 1 ∧ 0 ≤ b1 ∧ b1 ≤ 255 ∧ ¬ qTy 1 = 39 then qTy 1 + 1 else qTy 1 from (if_neg (lf_g_type_9 (qTy 1) tt b1 hh1 c_2)).symm), (show qTy 2 = if tt = 2 ∧ 0 ≤ b1 ∧ b1 ≤ 255 ∧ ¬ qTy 2 = 23 then qTy 2 + 1 else qTy 2 from (if_neg (lf_g_type_10 (qTy 2) tt b1 hh2 c_2)).symm), (if_neg (lf_g_type_11 (qTy 0) (qTy 1) (qTy 2) tt b1 hh0 hh1 hh2 c_2)).symm⟩, by rw [ht]; exact hP9, va_K.moved hW.alike hK, hD9⟩, hS.F ht⟩) hS.2.2 dX12_type_21
theorem lf_g_wipe_1 : 0 ≤ ((0 : Int32)).toInt ∧ ((0 : Int32)).toInt ≤ 24 := by decide +kernel
theorem lf_g_wipe_2 : 0 ≤ ((0 : Int32)).toInt ∧ ((0 : Int32)).toInt ≤ 39 := by decide +kernel
theorem lf_g_wipe_3 : 0 ≤ ((0 : Int32)).toInt ∧ ((0 : Int32)).toInt ≤ 23 := by decide +kernel
theorem lf_g_wipe_4 (a0 : Int32) (a1 : Int32) (a2 : Int32) (a3 : Int32) (h0 : 0 ≤ (a0).toInt ∧ (a0).toInt ≤ 24) (h1 : 0 ≤ (a1).toInt ∧ (a1).toInt ≤ 39) (h2 : 0 ≤ (a2).toInt ∧ (a2).toInt ≤ 23) (h3 : 0 ≤ a3 ∧ a3 ≤ 2) (h4 : ¬ a3 = 0) (h5 : ¬ a3 = 1) (h6 : ¬ a3 = 2) : False := by
  first | rfl | assumption | decide | exact Or.inl rfl | (first | rfl | assumption | decide | omega | (have hr0 := Int32.toInt_lt a0; have hs0 := Int32.le_toInt a0; have hr1 := Int32.toInt_lt a1; have hs1 := Int32.le_toInt a1; have hr2 := Int32.toInt_lt a2; have hs2 := Int32.le_toInt a2; have hr3 := Int32.toInt_lt a3; have hs3 := Int32.le_toInt a3; simp only [Int64.toInt_add, Int64.toInt_sub, Int32.toInt_add, Int32.toInt_sub, Int32.toInt_mul, Int64.le_iff_toInt_le, Int64.lt_iff_toInt_lt, Int32.le_iff_toInt_le, Int32.lt_iff_toInt_lt, ← Int32.toInt_inj, ← Int64.toInt_inj, Int32.toInt_toInt64, kc_0, kc_1, kc_2, kc_23, kc_24, kc_39, true_and, and_true, not_true_eq_false, not_false_eq_true] at * <;> ((first | omega | ((try simp (disch := omega) only [k_bm64] at *); (try simp (disch := omega) only [k_bm] at *); (try simp (disch := omega) only [k_bm] at *); omega) | (simp only [Int.bmod] at *; omega)))))
theorem lf_g_wipe_5 (a0 : Int32) (h0 : ¬ (0 ≤ a0 ∧ a0 ≤ 2)) : ¬ (a0 = 2) := by
  first | rfl | assumption | decide | exact Or.inl rfl | (first | rfl | assumption | decide | omega | (have hr0 := Int32.toInt_lt a0; have hs0 := Int32.le_toInt a0; simp only [Int64.toInt_add, Int64.toInt_sub, Int32.toInt_add, Int32.toInt_sub, Int32.toInt_mul, Int64.le_iff_toInt_le, Int64.lt_iff_toInt_lt, Int32.le_iff_toInt_le, Int32.lt_iff_toInt_lt, ← Int32.toInt_inj, ← Int64.toInt_inj, Int32.toInt_toInt64, kc_0, kc_2, true_and, and_true, not_true_eq_false, not_false_eq_true] at * <;> ((first | omega | ((try simp (disch := omega) only [k_bm64] at *); (try simp (disch := omega) only [k_bm] at *); (try simp (disch := omega) only [k_bm] at *); omega) | (simp only [Int.bmod] at *; omega)))))
theorem lf_g_wipe_6 (a0 : Int32) (h0 : ¬ (0 ≤ a0 ∧ a0 ≤ 2)) : ¬ (a0 = 1) := by
  first | rfl | assumption | decide | exact Or.inl rfl | (first | rfl | assumption | decide | omega | (have hr0 := Int32.toInt_lt a0; have hs0 := Int32.le_toInt a0; simp only [Int64.toInt_add, Int64.toInt_sub, Int32.toInt_add, Int32.toInt_sub, Int32.toInt_mul, Int64.le_iff_toInt_le, Int64.lt_iff_toInt_lt, Int32.le_iff_toInt_le, Int32.lt_iff_toInt_lt, ← Int32.toInt_inj, ← Int64.toInt_inj, Int32.toInt_toInt64, kc_0, kc_1, kc_2, true_and, and_true, not_true_eq_false, not_false_eq_true] at * <;> ((first | omega | ((try simp (disch := omega) only [k_bm64] at *); (try simp (disch := omega) only [k_bm] at *); (try simp (disch := omega) only [k_bm] at *); omega) | (simp only [Int.bmod] at *; omega)))))
theorem lf_g_wipe_7 (a0 : Int32) (h0 : ¬ (0 ≤ a0 ∧ a0 ≤ 2)) : ¬ (a0 = 0) := by
  first | rfl | assumption | decide | exact Or.inl rfl | (first | rfl | assumption | decide | omega | (have hr0 := Int32.toInt_lt a0; have hs0 := Int32.le_toInt a0; simp only [Int64.toInt_add, Int64.toInt_sub, Int32.toInt_add, Int32.toInt_sub, Int32.toInt_mul, Int64.le_iff_toInt_le, Int64.lt_iff_toInt_lt, Int32.le_iff_toInt_le, Int32.lt_iff_toInt_lt, ← Int32.toInt_inj, ← Int64.toInt_inj, Int32.toInt_toInt64, kc_0, kc_2, true_and, and_true, not_true_eq_false, not_false_eq_true] at * <;> ((first | omega | ((try simp (disch := omega) only [k_bm64] at *); (try simp (disch := omega) only [k_bm] at *); (try simp (disch := omega) only [k_bm] at *); omega) | (simp only [Int.bmod] at *; omega)))))
set_option maxHeartbeats 4000000 in
set_option maxRecDepth 100000 in
theorem g_wipe (l : Launch) (dC : Nat → ClassId) (dI : Nat → Nat → Nat) (cI cJ cQ : ClassId) (sz : Nat) (hm : Nat) (tt : Int32) (vFo : Nat) (vSi : Nat) (vIt : Nat) (vMo : Nat) (la : Int32) (vBy : Nat) (vTy : Nat) (mi : Int32) (vMi : Nat) (pn : Int32) (vPs : Nat) (gn : Int32) (vGs : Nat) (fn : Int32) (vFt : Nat) (le : Int32) (vTo : Nat) (kn : Int32) (fe : Int32) (en : Int32) (ca : Int32) (an : Int32) (co : Int32) (vPr : Nat) (vSt : Nat) (vFn : Nat) (sn : Int32) (vSg : Nat) (vAl : Nat) (dr : Int32) (qTy : Nat → Int32) (hh0 : 0 ≤ (qTy 0).toInt ∧ (qTy 0).toInt ≤ 24) (hh1 : 0 ≤ (qTy 1).toInt ∧ (qTy 1).toInt ≤ 39) (hh2 : 0 ≤ (qTy 2).toInt ∧ (qTy 2).toInt ≤ 23) : Met l yX12_wipe (kW yX12_wipe cX12_wipe 3 (some .int)) { frames := 2, cells := 0, slots := 0, locals := 45 } (kPre dC dI cI cJ cQ sz [.ref hm, .int tt] [(kX12 hm vFo vSi vIt vMo la vBy vTy mi vMi pn vPs gn vGs fn vFt le vTo kn fe en ca an co vPr vSt vFn sn vSg vAl dr), (kAI vTy cI 3 qTy)]) (va_Qi (fun (r : Int32) (u : kS) => (r = if tt = 0 then qTy 0 else if tt = 1 then qTy 1 else if tt = 2 then qTy 2 else -2) ∧ (0 ≤ ((u.2.1 0) 0).toInt ∧ ((u.2.1 0) 0).toInt ≤ 24) ∧ (0 ≤ ((u.2.1 0) 1).toInt ∧ ((u.2.1 0) 1).toInt ≤ 39) ∧ (0 ≤ ((u.2.1 0) 2).toInt ∧ ((u.2.1 0) 2).toInt ≤ 23) ∧ ((u.2.1 0) 0 = if tt = 0 then 0 else qTy 0) ∧ ((u.2.1 0) 1 = if tt = 1 then 0 else qTy 1) ∧ ((u.2.1 0) 2 = if tt = 2 then 0 else qTy 2)) (fun (u : kS) t₀ => kB dC dI cI cJ cQ (va_A [(kX12 hm vFo vSi vIt vMo la vBy vTy mi vMi pn vPs gn vGs fn vFt le vTo kn fe en ca an co vPr vSt vFn sn vSg vAl dr), (kAI vTy cI 3 qTy)] sz) [(kX12 hm vFo vSi vIt vMo la vBy vTy mi vMi pn vPs gn vGs fn vFt le vTo kn fe en ca an co vPr vSt vFn sn vSg vAl dr), (kAI vTy cI 3 (u.2.1 0))] t₀) (va_A [(kX12 hm vFo vSi vIt vMo la vBy vTy mi vMi pn vPs gn vGs fn vFt le vTo kn fe en ca an co vPr vSt vFn sn vSg vAl dr), (kAI vTy cI 3 qTy)] sz)) 0 0 (va_A [(kX12 hm vFo vSi vIt vMo la vBy vTy mi vMi pn vPs gn vGs fn vFt le vTo kn fe en ca an co vPr vSt vFn sn vSg vAl dr), (kAI vTy cI 3 qTy)] sz) := by
  refine Met.ofW (cc := cX12_wipe) (maxL := 3) (ret := (some .int)) (by decide) rfl ?_
  intro p₀ e₀ s₀ m₀ args below meth c₀ s₁ B hml hv₀
  obtain ⟨rfl, hsz, hP, hK, hD0, hN⟩ := hv₀
  have hx₀ := B.exec
  have hb := B.bytes
  have hr := B.returns
  have hts := atoms_spec (ws := (kW yX12_wipe cX12_wipe 3 (some .int))) B.pre
  have hts := fun w h => hts w (List.mem_cons_of_mem _ h)
  have hown : s₀.vm.findClass RX12 = some m₀.cls := findClass_of_methodNamed B.named
  have hlocks := B.notSynchronized
  subst hsz
  have hD := hD0.self (sz := s₀.heap.size)
  generalize hAe : va_A [(kX12 hm vFo vSi vIt vMo la vBy vTy mi vMi pn vPs gn vGs fn vFt le vTo kn fe en ca an co vPr vSt vFn sn vSg vAl dr), (kAI vTy cI 3 qTy)] s₀.heap.size = A at hD ⊢
  have hA : ∀ q : Nat, s₀.heap.size ≤ q → A q := fun q h => by rw [← hAe]; exact Or.inr h
  have hS : va_S A s₀.heap s₀.heap [] := va_S.rf
  have hP : va_P (dC, dI) vwCl [(kX12 hm vFo vSi vIt vMo la vBy vTy mi vMi pn vPs gn vGs fn vFt le vTo kn fe en ca an co vPr vSt vFn sn vSg vAl dr), (kAI vTy cI 3 qTy)] s₀.heap := hP
  have hl := lv_entry ([.ref hm, .int tt]) (n := 3) (Nat.le_of_ble_eq_true rfl)
  rw [lg_entry_eq]
  generalize (lg_sl ([.ref hm, .int tt]) ++ List.replicate (3 - (lg_sl ([.ref hm, .int tt])).length) Slot.unset).toArray = ls at hl ⊢
  have hl : lv_has ls 3 [(0, .ref hm), (1, .int tt)] := hl
  obtain ⟨H, hH⟩ : ∃ z : Heap, z = s₀.heap := ⟨_, rfl⟩
  rw [← hH] at hP
  have hS : va_S A s₀.heap H [] := by rw [hH]; exact hS
  refine k_heap hH ?_
  have hD : va_D A [(kX12 hm vFo vSi vIt vMo la vBy vTy mi vMi pn vPs gn vGs fn vFt le vTo kn fe en ca an co vPr vSt vFn sn vSg vAl dr), (kAI vTy cI 3 qTy)] := hD
  obtain ⟨locs, hlo⟩ : ∃ z : List Loc, z = [] := ⟨_, rfl⟩
  rw [← hlo] at hS ⊢
  clear hlo hH hAe hD0
  refine lv_iload_n hx₀ hb dX12_wipe_0 rfl (lv_at hl 1 rfl) ?_
  obtain ⟨hPc, hDc, hFc, hC⟩ := k_cw (wc := []) hP hD hS hA [] (by decide +kernel) rfl
  refine va_calli (va_runS (As := [.int tt]) (rest := []) ⟨hx₀, hb, hml, hown, hts⟩ (c_isText l dC dI cI cJ cQ H.size tt) (va_cwS 1 hts (kGS wd_204 wd_202 wd_203 wd_5) rfl rfl rfl (by decide +kernel) ⟨Nat.le_of_ble_eq_true rfl, Nat.le_of_ble_eq_true rfl⟩) (k_preS hK hPc hDc hN) rfl rfl hl.1 rfl (lv_room (Nat.le_of_ble_eq_true rfl)) dX12_wipe_1 ⟨by decide +kernel, by decide +kernel⟩) hS (fun q _ h => hFc q h) hFc (fun r_1 u₀ t₀ H1 locs ht hvm hw hB hz1 hk1 hS => ?_)
  obtain ⟨hP1, hK1, hD1⟩ := hB
  rw [ht] at hP1
  have hJ := k_jn (wr := [(kX12 hm vFo vSi vIt vMo la vBy vTy mi vMi pn vPs gn vGs fn vFt le vTo kn fe en ca an co vPr vSt vFn sn vSg vAl dr), (kAI vTy cI 3 qTy)]) (wt := [(kX12 hm vFo vSi vIt vMo la vBy vTy mi vMi pn vPs gn vGs fn vFt le vTo kn fe en ca an co vPr vSt vFn sn vSg vAl dr), (kAI vTy cI 3 qTy)]) hP hD hC [0, 1] rfl (by decide +kernel) (by decide +kernel) hk1 hFc hP1 hD1 rfl
  clear hP hD hPc hDc hFc hC hP1 hD1 hK1 hz1 hk1 hvm ht
  obtain ⟨hP, hD⟩ := hJ
  generalize H1 = H at hP hS ⊢
  try dsimp only at hw
  by_cases c_2 : 0 ≤ tt ∧ tt ≤ 2
  · rw [if_pos c_2] at hw
    refine k_topi (v := 1) hw ?_
    refine lv_if_ne (tgt := 10) hx₀ hb dX12_wipe_4 (by decide) (fun _ => ?_) (fun c9 => absurd c9 (by decide +kernel))
    by_cases c_3 : tt = 0
    · subst c_3
      refine lv_aload_n hx₀ hb dX12_wipe_10 rfl (lv_at hl 0 rfl) ?_
      refine va_get (D := (dC, dI)) (ci := 11) (v := .ref vTy) (C := RX12) (T := TX12) (N := 30) hx₀ hb hts inlX12 hown hK hP 0 rfl rfl 6 (by decide) (hts (.fieldLink RX12 25 "BittenStickModel" "typed" "[I") wd_120) (fun _ h9 => h9) rfl dX12_wipe_11 ?_
      refine lv_iload_n hx₀ hb dX12_wipe_14 rfl (lv_at hl 1 rfl) ?_
      refine va_iald hx₀ hb hK hP 1 0 rfl rfl (by unfold vp_in; decide +kernel) dX12_wipe_15 ?_
      refine k_topi (v := qTy 0) rfl ?_
      refine lv_istore_n (lv' := [(2, .int (qTy 0)), (0, .ref hm), (1, .int 0)]) hx₀ hb dX12_wipe_16 rfl hl (by decide) rfl (fun ls hl => ?_)
      refine lv_aload_n hx₀ hb dX12_wipe_17 rfl (lv_at hl 1 rfl) ?_
      refine va_get (D := (dC, dI)) (ci := 11) (v := .ref vTy) (C := RX12) (T := TX12) (N := 30) hx₀ hb hts inlX12 hown hK hP 0 rfl rfl 6 (by decide) (hts (.fieldLink RX12 25 "BittenStickModel" "typed" "[I") wd_120) (fun _ h9 => h9) rfl dX12_wipe_18 ?_
      refine lv_iload_n hx₀ hb dX12_wipe_21 rfl (lv_at hl 2 rfl) ?_
      refine lv_iconst (v := 0) hx₀ hb dX12_wipe_22 (by decide +kernel) ?_
      refine va_iast hx₀ hb hK hP hD hS 1 0 rfl rfl (by unfold vp_in; decide +kernel) dX12_wipe_23 ?_
      clear hP hD hS
      intro H locs hP hD hS
      replace hP := k_w2 (wt := [(kX12 hm vFo vSi vIt vMo la vBy vTy mi vMi pn vPs gn vGs fn vFt le vTo kn fe en ca an co vPr vSt vFn sn vSg vAl dr), (kAI vTy cI 3 (upd qTy (0 : Int32).toNatClampNeg 0))]) hP hD rfl
      replace hD := hP.2
      replace hP := hP.1
      refine lv_iload_n hx₀ hb dX12_wipe_24 rfl (lv_at hl 0 rfl) ?_
      obtain ⟨hP9, hD9⟩ := k_c2 (wc := [(kX12 hm vFo vSi vIt vMo la vBy vTy mi vMi pn vPs gn vGs fn vFt le vTo kn fe en ca an co vPr vSt vFn sn vSg vAl dr), (kAI vTy cI 3 (upd qTy (0 : Int32).toNatClampNeg 0))]) hP hD [0, 1] (by decide +kernel) rfl
      exact W.iret (v := qTy 0) hx₀ hb hr (fun t₀ ht hW => ⟨⟨qTy 0, (k_fn [], k_fa [upd qTy (0 : Int32).toNatClampNeg 0], k_fl [], k_fL [], k_fp []), rfl, ⟨(show (qTy 0 : Int32) = if (0 : Int32) = 0 then qTy 0 else if (0 : Int32) = 1 then qTy 1 else if (0 : Int32) = 2 then qTy 2 else -2 from (if_pos (rfl)).symm), (lf_g_wipe_1  ), hh1, hh2, (show (0 : Int32) = if (0 : Int32) = 0 then 0 else qTy 0 from (if_pos (rfl)).symm), (show (qTy 1) = if (0 : Int32) = 1 then 0 else qTy 1 from (if_neg (show ¬ ((0 : Int32) = 1) from (fun z => absurd z (by decide)))).symm), (show (qTy 2) = if (0 : Int32) = 2 then 0 else qTy 2 from (if_neg (show ¬ ((0 : Int32) = 2) from (fun z => absurd z (by decide)))).symm)⟩, by rw [ht]; exact hP9, va_K.moved hW.alike hK, hD9⟩, hS.F ht⟩) hS.2.2 dX12_wipe_25
    by_cases c_4 : tt = 1
    · subst c_4
      refine lv_aload_n hx₀ hb dX12_wipe_10 rfl (lv_at hl 0 rfl) ?_
      refine va_get (D := (dC, dI)) (ci := 11) (v := .ref vTy) (C := RX12) (T := TX12) (N := 30) hx₀ hb hts inlX12 hown hK hP 0 rfl rfl 6 (by decide) (hts (.fieldLink RX12 25 "BittenStickModel" "typed" "[I") wd_120) (fun _ h9 => h9) rfl dX12_wipe_11 ?_
      refine lv_iload_n hx₀ hb dX12_wipe_14 rfl (lv_at hl 1 rfl) ?_
      refine va_iald hx₀ hb hK hP 1 0 rfl rfl (by unfold vp_in; decide +kernel) dX12_wipe_15 ?_
      refine k_topi (v := qTy 1) rfl ?_
      refine lv_istore_n (lv' := [(2, .int (qTy 1)), (0, .ref hm), (1, .int 1)]) hx₀ hb dX12_wipe_16 rfl hl (by decide) rfl (fun ls hl => ?_)
      refine lv_aload_n hx₀ hb dX12_wipe_17 rfl (lv_at hl 1 rfl) ?_
      refine va_get (D := (dC, dI)) (ci := 11) (v := .ref vTy) (C := RX12) (T := TX12) (N := 30) hx₀ hb hts inlX12 hown hK hP 0 rfl rfl 6 (by decide) (hts (.fieldLink RX12 25 "BittenStickModel" "typed" "[I") wd_120) (fun _ h9 => h9) rfl dX12_wipe_18 ?_
      refine lv_iload_n hx₀ hb dX12_wipe_21 rfl (lv_at hl 2 rfl) ?_
      refine lv_iconst (v := 0) hx₀ hb dX12_wipe_22 (by decide +kernel) ?_
      refine va_iast hx₀ hb hK hP hD hS 1 0 rfl rfl (by unfold vp_in; decide +kernel) dX12_wipe_23 ?_
      clear hP hD hS
      intro H locs hP hD hS
      replace hP := k_w2 (wt := [(kX12 hm vFo vSi vIt vMo la vBy vTy mi vMi pn vPs gn vGs fn vFt le vTo kn fe en ca an co vPr vSt vFn sn vSg vAl dr), (kAI vTy cI 3 (upd qTy (1 : Int32).toNatClampNeg 0))]) hP hD rfl
      replace hD := hP.2
      replace hP := hP.1
      refine lv_iload_n hx₀ hb dX12_wipe_24 rfl (lv_at hl 0 rfl) ?_
      obtain ⟨hP9, hD9⟩ := k_c2 (wc := [(kX12 hm vFo vSi vIt vMo la vBy vTy mi vMi pn vPs gn vGs fn vFt le vTo kn fe en ca an co vPr vSt vFn sn vSg vAl dr), (kAI vTy cI 3 (upd qTy (1 : Int32).toNatClampNeg 0))]) hP hD [0, 1] (by decide +kernel) rfl
      exact W.iret (v := qTy 1) hx₀ hb hr (fun t₀ ht hW => ⟨⟨qTy 1, (k_fn [], k_fa [upd qTy (1 : Int32).toNatClampNeg 0], k_fl [], k_fL [], k_fp []), rfl, ⟨(show (qTy 1 : Int32) = if (1 : Int32) = 0 then qTy 0 else if (1 : Int32) = 1 then qTy 1 else if (1 : Int32) = 2 then qTy 2 else -2 from (((if_pos (rfl)).symm).trans (if_neg (show ¬ ((1 : Int32) = 0) from (fun z => absurd z (by decide)))).symm)), hh0, (lf_g_wipe_2  ), hh2, (show (qTy 0) = if (1 : Int32) = 0 then 0 else qTy 0 from (if_neg (show ¬ ((1 : Int32) = 0) from (fun z => absurd z (by decide)))).symm), (show (0 : Int32) = if (1 : Int32) = 1 then 0 else qTy 1 from (if_pos (rfl)).symm), (show (qTy 2) = if (1 : Int32) = 2 then 0 else qTy 2 from (if_neg (show ¬ ((1 : Int32) = 2) from (fun z => absurd z (by decide)))).symm)⟩, by rw [ht]; exact hP9, va_K.moved hW.alike hK, hD9⟩, hS.F ht⟩) hS.2.2 dX12_wipe_25
    by_cases c_5 : tt = 2
    · subst c_5
      refine lv_aload_n hx₀ hb dX12_wipe_10 rfl (lv_at hl 0 rfl) ?_
      refine va_get (D := (dC, dI)) (ci := 11) (v := .ref vTy) (C := RX12) (T := TX12) (N := 30) hx₀ hb hts inlX12 hown hK hP 0 rfl rfl 6 (by decide) (hts (.fieldLink RX12 25 "BittenStickModel" "typed" "[I") wd_120) (fun _ h9 => h9) rfl dX12_wipe_11 ?_
      refine lv_iload_n hx₀ hb dX12_wipe_14 rfl (lv_at hl 1 rfl) ?_
      refine va_iald hx₀ hb hK hP 1 0 rfl rfl (by unfold vp_in; decide +kernel) dX12_wipe_15 ?_
      refine k_topi (v := qTy 2) rfl ?_
      refine lv_istore_n (lv' := [(2, .int (qTy 2)), (0, .ref hm), (1, .int 2)]) hx₀ hb dX12_wipe_16 rfl hl (by decide) rfl (fun ls hl => ?_)
      refine lv_aload_n hx₀ hb dX12_wipe_17 rfl (lv_at hl 1 rfl) ?_
      refine va_get (D := (dC, dI)) (ci := 11) (v := .ref vTy) (C := RX12) (T := TX12) (N := 30) hx₀ hb hts inlX12 hown hK hP 0 rfl rfl 6 (by decide) (hts (.fieldLink RX12 25 "BittenStickModel" "typed" "[I") wd_120) (fun _ h9 => h9) rfl dX12_wipe_18 ?_
      refine lv_iload_n hx₀ hb dX12_wipe_21 rfl (lv_at hl 2 rfl) ?_
      refine lv_iconst (v := 0) hx₀ hb dX12_wipe_22 (by decide +kernel) ?_
      refine va_iast hx₀ hb hK hP hD hS 1 0 rfl rfl (by unfold vp_in; decide +kernel) dX12_wipe_23 ?_
      clear hP hD hS
      intro H locs hP hD hS
      replace hP := k_w2 (wt := [(kX12 hm vFo vSi vIt vMo la vBy vTy mi vMi pn vPs gn vGs fn vFt le vTo kn fe en ca an co vPr vSt vFn sn vSg vAl dr), (kAI vTy cI 3 (upd qTy (2 : Int32).toNatClampNeg 0))]) hP hD rfl
      replace hD := hP.2
      replace hP := hP.1
      refine lv_iload_n hx₀ hb dX12_wipe_24 rfl (lv_at hl 0 rfl) ?_
      obtain ⟨hP9, hD9⟩ := k_c2 (wc := [(kX12 hm vFo vSi vIt vMo la vBy vTy mi vMi pn vPs gn vGs fn vFt le vTo kn fe en ca an co vPr vSt vFn sn vSg vAl dr), (kAI vTy cI 3 (upd qTy (2 : Int32).toNatClampNeg 0))]) hP hD [0, 1] (by decide +kernel) rfl
      exact W.iret (v := qTy 2) hx₀ hb hr (fun t₀ ht hW => ⟨⟨qTy 2, (k_fn [], k_fa [upd qTy (2 : Int32).toNatClampNeg 0], k_fl [], k_fL [], k_fp []), rfl, ⟨(show (qTy 2 : Int32) = if (2 : Int32) = 0 then qTy 0 else if (2 : Int32) = 1 then qTy 1 else if (2 : Int32) = 2 then qTy 2 else -2 from (((((if_pos (rfl)).symm).trans (if_neg (show ¬ ((2 : Int32) = 1) from (fun z => absurd z (by decide)))).symm)).trans (if_neg (show ¬ ((2 : Int32) = 0) from (fun z => absurd z (by decide)))).symm)), hh0, hh1, (lf_g_wipe_3  ), (show (qTy 0) = if (2 : Int32) = 0 then 0 else qTy 0 from (if_neg (show ¬ ((2 : Int32) = 0) from (fun z => absurd z (by decide)))).symm), (show (qTy 1) = if (2 : Int32) = 1 then 0 else qTy 1 from (if_neg (show ¬ ((2 : Int32) = 1) from (fun z => absurd z (by decide)))).symm), (show (0 : Int32) = if (2 : Int32) = 2 then 0 else qTy 2 from (if_pos (rfl)).symm)⟩, by rw [ht]; exact hP9, va_K.moved hW.alike hK, hD9⟩, hS.F ht⟩) hS.2.2 dX12_wipe_25
    exact (lf_g_wipe_4 (qTy 0) (qTy 1) (qTy 2) tt hh0 hh1 hh2 c_2 c_3 c_4 c_5).elim
  rw [if_neg c_2] at hw
  refine k_topi (v := 0) hw ?_
  refine lv_if_ne (tgt := 10) hx₀ hb dX12_wipe_4 (by decide) (fun c9 => absurd (by decide +kernel) c9) (fun _ => ?_)
  refine lv_bipush (v := (-2)) hx₀ hb dX12_wipe_7 (by decide +kernel) ?_
  obtain ⟨hP9, hD9⟩ := k_c2 (wc := [(kX12 hm vFo vSi vIt vMo la vBy vTy mi vMi pn vPs gn vGs fn vFt le vTo kn fe en ca an co vPr vSt vFn sn vSg vAl dr), (kAI vTy cI 3 qTy)]) hP hD [0, 1] (by decide +kernel) rfl
  exact W.iret (v := (-2)) hx₀ hb hr (fun t₀ ht hW => ⟨⟨(-2), (k_fn [], k_fa [qTy], k_fl [], k_fL [], k_fp []), rfl, ⟨(show ((-2) : Int32) = if tt = 0 then qTy 0 else if tt = 1 then qTy 1 else if tt = 2 then qTy 2 else -2 from (((((if_neg (lf_g_wipe_5 tt c_2)).symm).trans (if_neg (lf_g_wipe_6 tt c_2)).symm)).trans (if_neg (lf_g_wipe_7 tt c_2)).symm)), hh0, hh1, hh2, (show qTy 0 = if tt = 0 then 0 else qTy 0 from (if_neg (lf_g_wipe_7 tt c_2)).symm), (show qTy 1 = if tt = 1 then 0 else qTy 1 from (if_neg (lf_g_wipe_6 tt c_2)).symm), (show qTy 2 = if tt = 2 then 0 else qTy 2 from (if_neg (lf_g_wipe_5 tt c_2)).symm)⟩, by rw [ht]; exact hP9, va_K.moved hW.alike hK, hD9⟩, hS.F ht⟩) hS.2.2 dX12_wipe_9
theorem lf_g_undo_1 (a0 : Int32) (h0 : 0 ≤ (a0).toInt ∧ (a0).toInt ≤ 24) (h1 : ¬ (a0) = 0) : 0 ≤ (((a0) - 1)).toInt ∧ (((a0) - 1)).toInt ≤ 24 := by
  first | rfl | assumption | decide | exact Or.inl rfl | (first | rfl | assumption | decide | omega | (have hr0 := Int32.toInt_lt a0; have hs0 := Int32.le_toInt a0; simp only [Int64.toInt_add, Int64.toInt_sub, Int32.toInt_add, Int32.toInt_sub, Int32.toInt_mul, Int64.le_iff_toInt_le, Int64.lt_iff_toInt_lt, Int32.le_iff_toInt_le, Int32.lt_iff_toInt_lt, ← Int32.toInt_inj, ← Int64.toInt_inj, Int32.toInt_toInt64, kc_0, kc_1, kc_24, true_and, and_true, not_true_eq_false, not_false_eq_true] at * <;> ((first | omega | ((try simp (disch := omega) only [k_bm64] at *); (try simp (disch := omega) only [k_bm] at *); (try simp (disch := omega) only [k_bm] at *); omega) | (simp only [Int.bmod] at *; omega)))))
theorem lf_g_undo_2 (a0 : Int32) (h0 : 0 ≤ (a0).toInt ∧ (a0).toInt ≤ 39) (h1 : ¬ (a0) = 0) : 0 ≤ (((a0) - 1)).toInt ∧ (((a0) - 1)).toInt ≤ 39 := by
  first | rfl | assumption | decide | exact Or.inl rfl | (first | rfl | assumption | decide | omega | (have hr0 := Int32.toInt_lt a0; have hs0 := Int32.le_toInt a0; simp only [Int64.toInt_add, Int64.toInt_sub, Int32.toInt_add, Int32.toInt_sub, Int32.toInt_mul, Int64.le_iff_toInt_le, Int64.lt_iff_toInt_lt, Int32.le_iff_toInt_le, Int32.lt_iff_toInt_lt, ← Int32.toInt_inj, ← Int64.toInt_inj, Int32.toInt_toInt64, kc_0, kc_1, kc_39, true_and, and_true, not_true_eq_false, not_false_eq_true] at * <;> ((first | omega | ((try simp (disch := omega) only [k_bm64] at *); (try simp (disch := omega) only [k_bm] at *); (try simp (disch := omega) only [k_bm] at *); omega) | (simp only [Int.bmod] at *; omega)))))
theorem lf_g_undo_3 (a0 : Int32) (h0 : 0 ≤ (a0).toInt ∧ (a0).toInt ≤ 23) (h1 : ¬ (a0) = 0) : 0 ≤ (((a0) - 1)).toInt ∧ (((a0) - 1)).toInt ≤ 23 := by
  first | rfl | assumption | decide | exact Or.inl rfl | (first | rfl | assumption | decide | omega | (have hr0 := Int32.toInt_lt a0; have hs0 := Int32.le_toInt a0; simp only [Int64.toInt_add, Int64.toInt_sub, Int32.toInt_add, Int32.toInt_sub, Int32.toInt_mul, Int64.le_iff_toInt_le, Int64.lt_iff_toInt_lt, Int32.le_iff_toInt_le, Int32.lt_iff_toInt_lt, ← Int32.toInt_inj, ← Int64.toInt_inj, Int32.toInt_toInt64, kc_0, kc_1, kc_23, true_and, and_true, not_true_eq_false, not_false_eq_true] at * <;> ((first | omega | ((try simp (disch := omega) only [k_bm64] at *); (try simp (disch := omega) only [k_bm] at *); (try simp (disch := omega) only [k_bm] at *); omega) | (simp only [Int.bmod] at *; omega)))))
theorem lf_g_undo_4 (a0 : Int32) (a1 : Int32) (h0 : 0 ≤ (a0).toInt ∧ (a0).toInt ≤ 24) (h1 : ¬ (0 ≤ a1 ∧ a1 ≤ 2)) : ¬ (a1 = 0 ∧ ¬ a0 = 0) := by
  first | rfl | assumption | decide | exact Or.inl rfl | (first | rfl | assumption | decide | omega | (have hr0 := Int32.toInt_lt a0; have hs0 := Int32.le_toInt a0; have hr1 := Int32.toInt_lt a1; have hs1 := Int32.le_toInt a1; simp only [Int64.toInt_add, Int64.toInt_sub, Int32.toInt_add, Int32.toInt_sub, Int32.toInt_mul, Int64.le_iff_toInt_le, Int64.lt_iff_toInt_lt, Int32.le_iff_toInt_le, Int32.lt_iff_toInt_lt, ← Int32.toInt_inj, ← Int64.toInt_inj, Int32.toInt_toInt64, kc_0, kc_2, kc_24, true_and, and_true, not_true_eq_false, not_false_eq_true] at * <;> ((first | omega | ((try simp (disch := omega) only [k_bm64] at *); (try simp (disch := omega) only [k_bm] at *); (try simp (disch := omega) only [k_bm] at *); omega) | (simp only [Int.bmod] at *; omega)))))
theorem lf_g_undo_5 (a0 : Int32) (a1 : Int32) (h0 : 0 ≤ (a0).toInt ∧ (a0).toInt ≤ 39) (h1 : ¬ (0 ≤ a1 ∧ a1 ≤ 2)) : ¬ (a1 = 1 ∧ ¬ a0 = 0) := by
  first | rfl | assumption | decide | exact Or.inl rfl | (first | rfl | assumption | decide | omega | (have hr0 := Int32.toInt_lt a0; have hs0 := Int32.le_toInt a0; have hr1 := Int32.toInt_lt a1; have hs1 := Int32.le_toInt a1; simp only [Int64.toInt_add, Int64.toInt_sub, Int32.toInt_add, Int32.toInt_sub, Int32.toInt_mul, Int64.le_iff_toInt_le, Int64.lt_iff_toInt_lt, Int32.le_iff_toInt_le, Int32.lt_iff_toInt_lt, ← Int32.toInt_inj, ← Int64.toInt_inj, Int32.toInt_toInt64, kc_0, kc_1, kc_2, kc_39, true_and, and_true, not_true_eq_false, not_false_eq_true] at * <;> ((first | omega | ((try simp (disch := omega) only [k_bm64] at *); (try simp (disch := omega) only [k_bm] at *); (try simp (disch := omega) only [k_bm] at *); omega) | (simp only [Int.bmod] at *; omega)))))
theorem lf_g_undo_6 (a0 : Int32) (a1 : Int32) (h0 : 0 ≤ (a0).toInt ∧ (a0).toInt ≤ 23) (h1 : ¬ (0 ≤ a1 ∧ a1 ≤ 2)) : ¬ (a1 = 2 ∧ ¬ a0 = 0) := by
  first | rfl | assumption | decide | exact Or.inl rfl | (first | rfl | assumption | decide | omega | (have hr0 := Int32.toInt_lt a0; have hs0 := Int32.le_toInt a0; have hr1 := Int32.toInt_lt a1; have hs1 := Int32.le_toInt a1; simp only [Int64.toInt_add, Int64.toInt_sub, Int32.toInt_add, Int32.toInt_sub, Int32.toInt_mul, Int64.le_iff_toInt_le, Int64.lt_iff_toInt_lt, Int32.le_iff_toInt_le, Int32.lt_iff_toInt_lt, ← Int32.toInt_inj, ← Int64.toInt_inj, Int32.toInt_toInt64, kc_0, kc_2, kc_23, true_and, and_true, not_true_eq_false, not_false_eq_true] at * <;> ((first | omega | ((try simp (disch := omega) only [k_bm64] at *); (try simp (disch := omega) only [k_bm] at *); (try simp (disch := omega) only [k_bm] at *); omega) | (simp only [Int.bmod] at *; omega)))))
set_option maxHeartbeats 4000000 in
set_option maxRecDepth 100000 in
theorem g_undo (l : Launch) (dC : Nat → ClassId) (dI : Nat → Nat → Nat) (cI cJ cQ : ClassId) (sz : Nat) (hm : Nat) (tt : Int32) (vFo : Nat) (vSi : Nat) (vIt : Nat) (vMo : Nat) (la : Int32) (vBy : Nat) (vTy : Nat) (mi : Int32) (vMi : Nat) (pn : Int32) (vPs : Nat) (gn : Int32) (vGs : Nat) (fn : Int32) (vFt : Nat) (le : Int32) (vTo : Nat) (kn : Int32) (fe : Int32) (en : Int32) (ca : Int32) (an : Int32) (co : Int32) (vPr : Nat) (vSt : Nat) (vFn : Nat) (sn : Int32) (vSg : Nat) (vAl : Nat) (dr : Int32) (qTy : Nat → Int32) (hh0 : 0 ≤ (qTy 0).toInt ∧ (qTy 0).toInt ≤ 24) (hh1 : 0 ≤ (qTy 1).toInt ∧ (qTy 1).toInt ≤ 39) (hh2 : 0 ≤ (qTy 2).toInt ∧ (qTy 2).toInt ≤ 23) : Met l yX12_undo (kW yX12_undo cX12_undo 2 (some .int)) { frames := 2, cells := 0, slots := 0, locals := 45 } (kPre dC dI cI cJ cQ sz [.ref hm, .int tt] [(kX12 hm vFo vSi vIt vMo la vBy vTy mi vMi pn vPs gn vGs fn vFt le vTo kn fe en ca an co vPr vSt vFn sn vSg vAl dr), (kAI vTy cI 3 qTy)]) (va_Qi (fun (r : Int32) (u : kS) => (r = if tt = 0 then (if qTy 0 = 0 then -3 else qTy 0 - 1) else if tt = 1 then (if qTy 1 = 0 then -3 else qTy 1 - 1) else if tt = 2 then (if qTy 2 = 0 then -3 else qTy 2 - 1) else -2) ∧ (0 ≤ ((u.2.1 0) 0).toInt ∧ ((u.2.1 0) 0).toInt ≤ 24) ∧ (0 ≤ ((u.2.1 0) 1).toInt ∧ ((u.2.1 0) 1).toInt ≤ 39) ∧ (0 ≤ ((u.2.1 0) 2).toInt ∧ ((u.2.1 0) 2).toInt ≤ 23) ∧ ((u.2.1 0) 0 = if tt = 0 ∧ ¬ qTy 0 = 0 then qTy 0 - 1 else qTy 0) ∧ ((u.2.1 0) 1 = if tt = 1 ∧ ¬ qTy 1 = 0 then qTy 1 - 1 else qTy 1) ∧ ((u.2.1 0) 2 = if tt = 2 ∧ ¬ qTy 2 = 0 then qTy 2 - 1 else qTy 2)) (fun (u : kS) t₀ => kB dC dI cI cJ cQ (va_A [(kX12 hm vFo vSi vIt vMo la vBy vTy mi vMi pn vPs gn vGs fn vFt le vTo kn fe en ca an co vPr vSt vFn sn vSg vAl dr), (kAI vTy cI 3 qTy)] sz) [(kX12 hm vFo vSi vIt vMo la vBy vTy mi vMi pn vPs gn vGs fn vFt le vTo kn fe en ca an co vPr vSt vFn sn vSg vAl dr), (kAI vTy cI 3 (u.2.1 0))] t₀) (va_A [(kX12 hm vFo vSi vIt vMo la vBy vTy mi vMi pn vPs gn vGs fn vFt le vTo kn fe en ca an co vPr vSt vFn sn vSg vAl dr), (kAI vTy cI 3 qTy)] sz)) 0 0 (va_A [(kX12 hm vFo vSi vIt vMo la vBy vTy mi vMi pn vPs gn vGs fn vFt le vTo kn fe en ca an co vPr vSt vFn sn vSg vAl dr), (kAI vTy cI 3 qTy)] sz) := by
  refine Met.ofW (cc := cX12_undo) (maxL := 2) (ret := (some .int)) (by decide) rfl ?_
  intro p₀ e₀ s₀ m₀ args below meth c₀ s₁ B hml hv₀
  obtain ⟨rfl, hsz, hP, hK, hD0, hN⟩ := hv₀
  have hx₀ := B.exec
  have hb := B.bytes
  have hr := B.returns
  have hts := atoms_spec (ws := (kW yX12_undo cX12_undo 2 (some .int))) B.pre
  have hts := fun w h => hts w (List.mem_cons_of_mem _ h)
  have hown : s₀.vm.findClass RX12 = some m₀.cls := findClass_of_methodNamed B.named
  have hlocks := B.notSynchronized
  subst hsz
  have hD := hD0.self (sz := s₀.heap.size)
  generalize hAe : va_A [(kX12 hm vFo vSi vIt vMo la vBy vTy mi vMi pn vPs gn vGs fn vFt le vTo kn fe en ca an co vPr vSt vFn sn vSg vAl dr), (kAI vTy cI 3 qTy)] s₀.heap.size = A at hD ⊢
  have hA : ∀ q : Nat, s₀.heap.size ≤ q → A q := fun q h => by rw [← hAe]; exact Or.inr h
  have hS : va_S A s₀.heap s₀.heap [] := va_S.rf
  have hP : va_P (dC, dI) vwCl [(kX12 hm vFo vSi vIt vMo la vBy vTy mi vMi pn vPs gn vGs fn vFt le vTo kn fe en ca an co vPr vSt vFn sn vSg vAl dr), (kAI vTy cI 3 qTy)] s₀.heap := hP
  have hl := lv_entry ([.ref hm, .int tt]) (n := 2) (Nat.le_of_ble_eq_true rfl)
  rw [lg_entry_eq]
  generalize (lg_sl ([.ref hm, .int tt]) ++ List.replicate (2 - (lg_sl ([.ref hm, .int tt])).length) Slot.unset).toArray = ls at hl ⊢
  have hl : lv_has ls 2 [(0, .ref hm), (1, .int tt)] := hl
  obtain ⟨H, hH⟩ : ∃ z : Heap, z = s₀.heap := ⟨_, rfl⟩
  rw [← hH] at hP
  have hS : va_S A s₀.heap H [] := by rw [hH]; exact hS
  refine k_heap hH ?_
  have hD : va_D A [(kX12 hm vFo vSi vIt vMo la vBy vTy mi vMi pn vPs gn vGs fn vFt le vTo kn fe en ca an co vPr vSt vFn sn vSg vAl dr), (kAI vTy cI 3 qTy)] := hD
  obtain ⟨locs, hlo⟩ : ∃ z : List Loc, z = [] := ⟨_, rfl⟩
  rw [← hlo] at hS ⊢
  clear hlo hH hAe hD0
  refine lv_iload_n hx₀ hb dX12_undo_0 rfl (lv_at hl 1 rfl) ?_
  obtain ⟨hPc, hDc, hFc, hC⟩ := k_cw (wc := []) hP hD hS hA [] (by decide +kernel) rfl
  refine va_calli (va_runS (As := [.int tt]) (rest := []) ⟨hx₀, hb, hml, hown, hts⟩ (c_isText l dC dI cI cJ cQ H.size tt) (va_cwS 1 hts (kGS wd_204 wd_202 wd_203 wd_5) rfl rfl rfl (by decide +kernel) ⟨Nat.le_of_ble_eq_true rfl, Nat.le_of_ble_eq_true rfl⟩) (k_preS hK hPc hDc hN) rfl rfl hl.1 rfl (lv_room (Nat.le_of_ble_eq_true rfl)) dX12_undo_1 ⟨by decide +kernel, by decide +kernel⟩) hS (fun q _ h => hFc q h) hFc (fun r_1 u₀ t₀ H1 locs ht hvm hw hB hz1 hk1 hS => ?_)
  obtain ⟨hP1, hK1, hD1⟩ := hB
  rw [ht] at hP1
  have hJ := k_jn (wr := [(kX12 hm vFo vSi vIt vMo la vBy vTy mi vMi pn vPs gn vGs fn vFt le vTo kn fe en ca an co vPr vSt vFn sn vSg vAl dr), (kAI vTy cI 3 qTy)]) (wt := [(kX12 hm vFo vSi vIt vMo la vBy vTy mi vMi pn vPs gn vGs fn vFt le vTo kn fe en ca an co vPr vSt vFn sn vSg vAl dr), (kAI vTy cI 3 qTy)]) hP hD hC [0, 1] rfl (by decide +kernel) (by decide +kernel) hk1 hFc hP1 hD1 rfl
  clear hP hD hPc hDc hFc hC hP1 hD1 hK1 hz1 hk1 hvm ht
  obtain ⟨hP, hD⟩ := hJ
  generalize H1 = H at hP hS ⊢
  try dsimp only at hw
  by_cases c_2 : 0 ≤ tt ∧ tt ≤ 2
  · rw [if_pos c_2] at hw
    refine k_topi (v := 1) hw ?_
    refine lv_if_ne (tgt := 10) hx₀ hb dX12_undo_4 (by decide) (fun _ => ?_) (fun c9 => absurd c9 (by decide +kernel))
    by_cases c_3 : tt = 0
    · subst c_3
      refine lv_aload_n hx₀ hb dX12_undo_10 rfl (lv_at hl 0 rfl) ?_
      refine va_get (D := (dC, dI)) (ci := 11) (v := .ref vTy) (C := RX12) (T := TX12) (N := 30) hx₀ hb hts inlX12 hown hK hP 0 rfl rfl 6 (by decide) (hts (.fieldLink RX12 25 "BittenStickModel" "typed" "[I") wd_120) (fun _ h9 => h9) rfl dX12_undo_11 ?_
      refine lv_iload_n hx₀ hb dX12_undo_14 rfl (lv_at hl 1 rfl) ?_
      refine va_iald hx₀ hb hK hP 1 0 rfl rfl (by unfold vp_in; decide +kernel) dX12_undo_15 ?_
      refine k_topi (v := qTy 0) rfl ?_
      refine lv_if_ne (tgt := 22) hx₀ hb dX12_undo_16 (by decide) (fun c_4 => ?_) (fun c_4 => ?_)
      · refine lv_aload_n hx₀ hb dX12_undo_22 rfl (lv_at hl 0 rfl) ?_
        refine va_get (D := (dC, dI)) (ci := 11) (v := .ref vTy) (C := RX12) (T := TX12) (N := 30) hx₀ hb hts inlX12 hown hK hP 0 rfl rfl 6 (by decide) (hts (.fieldLink RX12 25 "BittenStickModel" "typed" "[I") wd_120) (fun _ h9 => h9) rfl dX12_undo_23 ?_
        refine lv_iload_n hx₀ hb dX12_undo_26 rfl (lv_at hl 1 rfl) ?_
        refine lv_dup2_11 hx₀ hb dX12_undo_27 rfl rfl ?_
        refine va_iald hx₀ hb hK hP 1 0 rfl rfl (by unfold vp_in; decide +kernel) dX12_undo_28 ?_
        refine k_topi (v := qTy 0) rfl ?_
        refine lv_iconst (v := 1) hx₀ hb dX12_undo_29 (by decide +kernel) ?_
        refine lv_isub hx₀ hb dX12_undo_30 ?_
        refine va_iast hx₀ hb hK hP hD hS 1 0 rfl rfl (by unfold vp_in; decide +kernel) dX12_undo_31 ?_
        clear hP hD hS
        intro H locs hP hD hS
        replace hP := k_w2 (wt := [(kX12 hm vFo vSi vIt vMo la vBy vTy mi vMi pn vPs gn vGs fn vFt le vTo kn fe en ca an co vPr vSt vFn sn vSg vAl dr), (kAI vTy cI 3 (upd qTy (0 : Int32).toNatClampNeg ((qTy 0) - 1)))]) hP hD rfl
        replace hD := hP.2
        replace hP := hP.1
        refine lv_aload_n hx₀ hb dX12_undo_32 rfl (lv_at hl 0 rfl) ?_
        refine va_get (D := (dC, dI)) (ci := 11) (v := .ref vTy) (C := RX12) (T := TX12) (N := 30) hx₀ hb hts inlX12 hown hK hP 0 rfl rfl 6 (by decide) (hts (.fieldLink RX12 25 "BittenStickModel" "typed" "[I") wd_120) (fun _ h9 => h9) rfl dX12_undo_33 ?_
        refine lv_iload_n hx₀ hb dX12_undo_36 rfl (lv_at hl 1 rfl) ?_
        refine va_iald hx₀ hb hK hP 1 0 rfl rfl (by unfold vp_in; decide +kernel) dX12_undo_37 ?_
        refine k_topi (v := (upd qTy (0 : Int32).toNatClampNeg ((qTy 0) - 1)) 0) rfl ?_
        obtain ⟨hP9, hD9⟩ := k_c2 (wc := [(kX12 hm vFo vSi vIt vMo la vBy vTy mi vMi pn vPs gn vGs fn vFt le vTo kn fe en ca an co vPr vSt vFn sn vSg vAl dr), (kAI vTy cI 3 (upd qTy (0 : Int32).toNatClampNeg ((qTy 0) - 1)))]) hP hD [0, 1] (by decide +kernel) rfl
        exact W.iret (v := (upd qTy (0 : Int32).toNatClampNeg ((qTy 0) - 1)) 0) hx₀ hb hr (fun t₀ ht hW => ⟨⟨(upd qTy (0 : Int32).toNatClampNeg ((qTy 0) - 1)) 0, (k_fn [], k_fa [upd qTy (0 : Int32).toNatClampNeg ((qTy 0) - 1)], k_fl [], k_fL [], k_fp []), rfl, ⟨(show (((qTy 0) - 1) : Int32) = if (0 : Int32) = 0 then (if qTy 0 = 0 then -3 else qTy 0 - 1) else if (0 : Int32) = 1 then (if qTy 1 = 0 then -3 else qTy 1 - 1) else if (0 : Int32) = 2 then (if qTy 2 = 0 then -3 else qTy 2 - 1) else -2 from (((if_neg (c_4)).symm).trans (if_pos (rfl)).symm)), (lf_g_undo_1 (qTy 0) hh0 c_4), hh1, hh2, (show ((qTy 0) - 1) = if (0 : Int32) = 0 ∧ ¬ qTy 0 = 0 then qTy 0 - 1 else qTy 0 from (if_pos (show (0 : Int32) = 0 ∧ ¬ qTy 0 = 0 from ⟨rfl, c_4⟩)).symm), (show (qTy 1) = if (0 : Int32) = 1 ∧ ¬ qTy 1 = 0 then qTy 1 - 1 else qTy 1 from (if_neg (show ¬ ((0 : Int32) = 1 ∧ ¬ qTy 1 = 0) from (fun z => (fun z => absurd z (by decide)) z.1))).symm), (show (qTy 2) = if (0 : Int32) = 2 ∧ ¬ qTy 2 = 0 then qTy 2 - 1 else qTy 2 from (if_neg (show ¬ ((0 : Int32) = 2 ∧ ¬ qTy 2 = 0) from (fun z => (fun z => absurd z (by decide)) z.1))).symm)⟩, by rw [ht]; exact hP9, va_K.moved hW.alike hK, hD9⟩, hS.F ht⟩) hS.2.2 dX12_undo_38
      · refine lv_bipush (v := (-3)) hx₀ hb dX12_undo_19 (by decide +kernel) ?_
        obtain ⟨hP9, hD9⟩ := k_c2 (wc := [(kX12 hm vFo vSi vIt vMo la vBy vTy mi vMi pn vPs gn vGs fn vFt le vTo kn fe en ca an co vPr vSt vFn sn vSg vAl dr), (kAI vTy cI 3 qTy)]) hP hD [0, 1] (by decide +kernel) rfl
        exact W.iret (v := (-3)) hx₀ hb hr (fun t₀ ht hW => ⟨⟨(-3), (k_fn [], k_fa [qTy], k_fl [], k_fL [], k_fp []), rfl, ⟨(show ((-3) : Int32) = if (0 : Int32) = 0 then (if qTy 0 = 0 then -3 else qTy 0 - 1) else if (0 : Int32) = 1 then (if qTy 1 = 0 then -3 else qTy 1 - 1) else if (0 : Int32) = 2 then (if qTy 2 = 0 then -3 else qTy 2 - 1) else -2 from (((if_pos (c_4)).symm).trans (if_pos (rfl)).symm)), hh0, hh1, hh2, (show qTy 0 = if (0 : Int32) = 0 ∧ ¬ qTy 0 = 0 then qTy 0 - 1 else qTy 0 from (if_neg (show ¬ ((0 : Int32) = 0 ∧ ¬ qTy 0 = 0) from (fun z => (fun z => z c_4) z.2))).symm), (show qTy 1 = if (0 : Int32) = 1 ∧ ¬ qTy 1 = 0 then qTy 1 - 1 else qTy 1 from (if_neg (show ¬ ((0 : Int32) = 1 ∧ ¬ qTy 1 = 0) from (fun z => (fun z => absurd z (by decide)) z.1))).symm), (show qTy 2 = if (0 : Int32) = 2 ∧ ¬ qTy 2 = 0 then qTy 2 - 1 else qTy 2 from (if_neg (show ¬ ((0 : Int32) = 2 ∧ ¬ qTy 2 = 0) from (fun z => (fun z => absurd z (by decide)) z.1))).symm)⟩, by rw [ht]; exact hP9, va_K.moved hW.alike hK, hD9⟩, hS.F ht⟩) hS.2.2 dX12_undo_21
    by_cases c_5 : tt = 1
    · subst c_5
      refine lv_aload_n hx₀ hb dX12_undo_10 rfl (lv_at hl 0 rfl) ?_
      refine va_get (D := (dC, dI)) (ci := 11) (v := .ref vTy) (C := RX12) (T := TX12) (N := 30) hx₀ hb hts inlX12 hown hK hP 0 rfl rfl 6 (by decide) (hts (.fieldLink RX12 25 "BittenStickModel" "typed" "[I") wd_120) (fun _ h9 => h9) rfl dX12_undo_11 ?_
      refine lv_iload_n hx₀ hb dX12_undo_14 rfl (lv_at hl 1 rfl) ?_
      refine va_iald hx₀ hb hK hP 1 0 rfl rfl (by unfold vp_in; decide +kernel) dX12_undo_15 ?_
      refine k_topi (v := qTy 1) rfl ?_
      refine lv_if_ne (tgt := 22) hx₀ hb dX12_undo_16 (by decide) (fun c_6 => ?_) (fun c_6 => ?_)
      · refine lv_aload_n hx₀ hb dX12_undo_22 rfl (lv_at hl 0 rfl) ?_
        refine va_get (D := (dC, dI)) (ci := 11) (v := .ref vTy) (C := RX12) (T := TX12) (N := 30) hx₀ hb hts inlX12 hown hK hP 0 rfl rfl 6 (by decide) (hts (.fieldLink RX12 25 "BittenStickModel" "typed" "[I") wd_120) (fun _ h9 => h9) rfl dX12_undo_23 ?_
        refine lv_iload_n hx₀ hb dX12_undo_26 rfl (lv_at hl 1 rfl) ?_
        refine lv_dup2_11 hx₀ hb dX12_undo_27 rfl rfl ?_
        refine va_iald hx₀ hb hK hP 1 0 rfl rfl (by unfold vp_in; decide +kernel) dX12_undo_28 ?_
        refine k_topi (v := qTy 1) rfl ?_
        refine lv_iconst (v := 1) hx₀ hb dX12_undo_29 (by decide +kernel) ?_
        refine lv_isub hx₀ hb dX12_undo_30 ?_
        refine va_iast hx₀ hb hK hP hD hS 1 0 rfl rfl (by unfold vp_in; decide +kernel) dX12_undo_31 ?_
        clear hP hD hS
        intro H locs hP hD hS
        replace hP := k_w2 (wt := [(kX12 hm vFo vSi vIt vMo la vBy vTy mi vMi pn vPs gn vGs fn vFt le vTo kn fe en ca an co vPr vSt vFn sn vSg vAl dr), (kAI vTy cI 3 (upd qTy (1 : Int32).toNatClampNeg ((qTy 1) - 1)))]) hP hD rfl
        replace hD := hP.2
        replace hP := hP.1
        refine lv_aload_n hx₀ hb dX12_undo_32 rfl (lv_at hl 0 rfl) ?_
        refine va_get (D := (dC, dI)) (ci := 11) (v := .ref vTy) (C := RX12) (T := TX12) (N := 30) hx₀ hb hts inlX12 hown hK hP 0 rfl rfl 6 (by decide) (hts (.fieldLink RX12 25 "BittenStickModel" "typed" "[I") wd_120) (fun _ h9 => h9) rfl dX12_undo_33 ?_
        refine lv_iload_n hx₀ hb dX12_undo_36 rfl (lv_at hl 1 rfl) ?_
        refine va_iald hx₀ hb hK hP 1 0 rfl rfl (by unfold vp_in; decide +kernel) dX12_undo_37 ?_
        refine k_topi (v := (upd qTy (1 : Int32).toNatClampNeg ((qTy 1) - 1)) 1) rfl ?_
        obtain ⟨hP9, hD9⟩ := k_c2 (wc := [(kX12 hm vFo vSi vIt vMo la vBy vTy mi vMi pn vPs gn vGs fn vFt le vTo kn fe en ca an co vPr vSt vFn sn vSg vAl dr), (kAI vTy cI 3 (upd qTy (1 : Int32).toNatClampNeg ((qTy 1) - 1)))]) hP hD [0, 1] (by decide +kernel) rfl
        exact W.iret (v := (upd qTy (1 : Int32).toNatClampNeg ((qTy 1) - 1)) 1) hx₀ hb hr (fun t₀ ht hW => ⟨⟨(upd qTy (1 : Int32).toNatClampNeg ((qTy 1) - 1)) 1, (k_fn [], k_fa [upd qTy (1 : Int32).toNatClampNeg ((qTy 1) - 1)], k_fl [], k_fL [], k_fp []), rfl, ⟨(show (((qTy 1) - 1) : Int32) = if (1 : Int32) = 0 then (if qTy 0 = 0 then -3 else qTy 0 - 1) else if (1 : Int32) = 1 then (if qTy 1 = 0 then -3 else qTy 1 - 1) else if (1 : Int32) = 2 then (if qTy 2 = 0 then -3 else qTy 2 - 1) else -2 from (((((if_neg (c_6)).symm).trans (if_pos (rfl)).symm)).trans (if_neg (show ¬ ((1 : Int32) = 0) from (fun z => absurd z (by decide)))).symm)), hh0, (lf_g_undo_2 (qTy 1) hh1 c_6), hh2, (show (qTy 0) = if (1 : Int32) = 0 ∧ ¬ qTy 0 = 0 then qTy 0 - 1 else qTy 0 from (if_neg (show ¬ ((1 : Int32) = 0 ∧ ¬ qTy 0 = 0) from (fun z => (fun z => absurd z (by decide)) z.1))).symm), (show ((qTy 1) - 1) = if (1 : Int32) = 1 ∧ ¬ qTy 1 = 0 then qTy 1 - 1 else qTy 1 from (if_pos (show (1 : Int32) = 1 ∧ ¬ qTy 1 = 0 from ⟨rfl, c_6⟩)).symm), (show (qTy 2) = if (1 : Int32) = 2 ∧ ¬ qTy 2 = 0 then qTy 2 - 1 else qTy 2 from (if_neg (show ¬ ((1 : Int32) = 2 ∧ ¬ qTy 2 = 0) from (fun z => (fun z => absurd z (by decide)) z.1))).symm)⟩, by rw [ht]; exact hP9, va_K.moved hW.alike hK, hD9⟩, hS.F ht⟩) hS.2.2 dX12_undo_38
      · refine lv_bipush (v := (-3)) hx₀ hb dX12_undo_19 (by decide +kernel) ?_
        obtain ⟨hP9, hD9⟩ := k_c2 (wc := [(kX12 hm vFo vSi vIt vMo la vBy vTy mi vMi pn vPs gn vGs fn vFt le vTo kn fe en ca an co vPr vSt vFn sn vSg vAl dr), (kAI vTy cI 3 qTy)]) hP hD [0, 1] (by decide +kernel) rfl
        exact W.iret (v := (-3)) hx₀ hb hr (fun t₀ ht hW => ⟨⟨(-3), (k_fn [], k_fa [qTy], k_fl [], k_fL [], k_fp []), rfl, ⟨(show ((-3) : Int32) = if (1 : Int32) = 0 then (if qTy 0 = 0 then -3 else qTy 0 - 1) else if (1 : Int32) = 1 then (if qTy 1 = 0 then -3 else qTy 1 - 1) else if (1 : Int32) = 2 then (if qTy 2 = 0 then -3 else qTy 2 - 1) else -2 from (((((if_pos (c_6)).symm).trans (if_pos (rfl)).symm)).trans (if_neg (show ¬ ((1 : Int32) = 0) from (fun z => absurd z (by decide)))).symm)), hh0, hh1, hh2, (show qTy 0 = if (1 : Int32) = 0 ∧ ¬ qTy 0 = 0 then qTy 0 - 1 else qTy 0 from (if_neg (show ¬ ((1 : Int32) = 0 ∧ ¬ qTy 0 = 0) from (fun z => (fun z => absurd z (by decide)) z.1))).symm), (show qTy 1 = if (1 : Int32) = 1 ∧ ¬ qTy 1 = 0 then qTy 1 - 1 else qTy 1 from (if_neg (show ¬ ((1 : Int32) = 1 ∧ ¬ qTy 1 = 0) from (fun z => (fun z => z c_6) z.2))).symm), (show qTy 2 = if (1 : Int32) = 2 ∧ ¬ qTy 2 = 0 then qTy 2 - 1 else qTy 2 from (if_neg (show ¬ ((1 : Int32) = 2 ∧ ¬ qTy 2 = 0) from (fun z => (fun z => absurd z (by decide)) z.1))).symm)⟩, by rw [ht]; exact hP9, va_K.moved hW.alike hK, hD9⟩, hS.F ht⟩) hS.2.2 dX12_undo_21
    by_cases c_7 : tt = 2
    · subst c_7
      refine lv_aload_n hx₀ hb dX12_undo_10 rfl (lv_at hl 0 rfl) ?_
      refine va_get (D := (dC, dI)) (ci := 11) (v := .ref vTy) (C := RX12) (T := TX12) (N := 30) hx₀ hb hts inlX12 hown hK hP 0 rfl rfl 6 (by decide) (hts (.fieldLink RX12 25 "BittenStickModel" "typed" "[I") wd_120) (fun _ h9 => h9) rfl dX12_undo_11 ?_
      refine lv_iload_n hx₀ hb dX12_undo_14 rfl (lv_at hl 1 rfl) ?_
      refine va_iald hx₀ hb hK hP 1 0 rfl rfl (by unfold vp_in; decide +kernel) dX12_undo_15 ?_
      refine k_topi (v := qTy 2) rfl ?_
      refine lv_if_ne (tgt := 22) hx₀ hb dX12_undo_16 (by decide) (fun c_8 => ?_) (fun c_8 => ?_)
      · refine lv_aload_n hx₀ hb dX12_undo_22 rfl (lv_at hl 0 rfl) ?_
        refine va_get (D := (dC, dI)) (ci := 11) (v := .ref vTy) (C := RX12) (T := TX12) (N := 30) hx₀ hb hts inlX12 hown hK hP 0 rfl rfl 6 (by decide) (hts (.fieldLink RX12 25 "BittenStickModel" "typed" "[I") wd_120) (fun _ h9 => h9) rfl dX12_undo_23 ?_
        refine lv_iload_n hx₀ hb dX12_undo_26 rfl (lv_at hl 1 rfl) ?_
        refine lv_dup2_11 hx₀ hb dX12_undo_27 rfl rfl ?_
        refine va_iald hx₀ hb hK hP 1 0 rfl rfl (by unfold vp_in; decide +kernel) dX12_undo_28 ?_
        refine k_topi (v := qTy 2) rfl ?_
        refine lv_iconst (v := 1) hx₀ hb dX12_undo_29 (by decide +kernel) ?_
        refine lv_isub hx₀ hb dX12_undo_30 ?_
        refine va_iast hx₀ hb hK hP hD hS 1 0 rfl rfl (by unfold vp_in; decide +kernel) dX12_undo_31 ?_
        clear hP hD hS
        intro H locs hP hD hS
        replace hP := k_w2 (wt := [(kX12 hm vFo vSi vIt vMo la vBy vTy mi vMi pn vPs gn vGs fn vFt le vTo kn fe en ca an co vPr vSt vFn sn vSg vAl dr), (kAI vTy cI 3 (upd qTy (2 : Int32).toNatClampNeg ((qTy 2) - 1)))]) hP hD rfl
        replace hD := hP.2
        replace hP := hP.1
        refine lv_aload_n hx₀ hb dX12_undo_32 rfl (lv_at hl 0 rfl) ?_
        refine va_get (D := (dC, dI)) (ci := 11) (v := .ref vTy) (C := RX12) (T := TX12) (N := 30) hx₀ hb hts inlX12 hown hK hP 0 rfl rfl 6 (by decide) (hts (.fieldLink RX12 25 "BittenStickModel" "typed" "[I") wd_120) (fun _ h9 => h9) rfl dX12_undo_33 ?_
        refine lv_iload_n hx₀ hb dX12_undo_36 rfl (lv_at hl 1 rfl) ?_
        refine va_iald hx₀ hb hK hP 1 0 rfl rfl (by unfold vp_in; decide +kernel) dX12_undo_37 ?_
        refine k_topi (v := (upd qTy (2 : Int32).toNatClampNeg ((qTy 2) - 1)) 2) rfl ?_
        obtain ⟨hP9, hD9⟩ := k_c2 (wc := [(kX12 hm vFo vSi vIt vMo la vBy vTy mi vMi pn vPs gn vGs fn vFt le vTo kn fe en ca an co vPr vSt vFn sn vSg vAl dr), (kAI vTy cI 3 (upd qTy (2 : Int32).toNatClampNeg ((qTy 2) - 1)))]) hP hD [0, 1] (by decide +kernel) rfl
        exact W.iret (v := (upd qTy (2 : Int32).toNatClampNeg ((qTy 2) - 1)) 2) hx₀ hb hr (fun t₀ ht hW => ⟨⟨(upd qTy (2 : Int32).toNatClampNeg ((qTy 2) - 1)) 2, (k_fn [], k_fa [upd qTy (2 : Int32).toNatClampNeg ((qTy 2) - 1)], k_fl [], k_fL [], k_fp []), rfl, ⟨(show (((qTy 2) - 1) : Int32) = if (2 : Int32) = 0 then (if qTy 0 = 0 then -3 else qTy 0 - 1) else if (2 : Int32) = 1 then (if qTy 1 = 0 then -3 else qTy 1 - 1) else if (2 : Int32) = 2 then (if qTy 2 = 0 then -3 else qTy 2 - 1) else -2 from (((((((if_neg (c_8)).symm).trans (if_pos (rfl)).symm)).trans (if_neg (show ¬ ((2 : Int32) = 1) from (fun z => absurd z (by decide)))).symm)).trans (if_neg (show ¬ ((2 : Int32) = 0) from (fun z => absurd z (by decide)))).symm)), hh0, hh1, (lf_g_undo_3 (qTy 2) hh2 c_8), (show (qTy 0) = if (2 : Int32) = 0 ∧ ¬ qTy 0 = 0 then qTy 0 - 1 else qTy 0 from (if_neg (show ¬ ((2 : Int32) = 0 ∧ ¬ qTy 0 = 0) from (fun z => (fun z => absurd z (by decide)) z.1))).symm), (show (qTy 1) = if (2 : Int32) = 1 ∧ ¬ qTy 1 = 0 then qTy 1 - 1 else qTy 1 from (if_neg (show ¬ ((2 : Int32) = 1 ∧ ¬ qTy 1 = 0) from (fun z => (fun z => absurd z (by decide)) z.1))).symm), (show ((qTy 2) - 1) = if (2 : Int32) = 2 ∧ ¬ qTy 2 = 0 then qTy 2 - 1 else qTy 2 from (if_pos (show (2 : Int32) = 2 ∧ ¬ qTy 2 = 0 from ⟨rfl, c_8⟩)).symm)⟩, by rw [ht]; exact hP9, va_K.moved hW.alike hK, hD9⟩, hS.F ht⟩) hS.2.2 dX12_undo_38
      · refine lv_bipush (v := (-3)) hx₀ hb dX12_undo_19 (by decide +kernel) ?_
        obtain ⟨hP9, hD9⟩ := k_c2 (wc := [(kX12 hm vFo vSi vIt vMo la vBy vTy mi vMi pn vPs gn vGs fn vFt le vTo kn fe en ca an co vPr vSt vFn sn vSg vAl dr), (kAI vTy cI 3 qTy)]) hP hD [0, 1] (by decide +kernel) rfl
        exact W.iret (v := (-3)) hx₀ hb hr (fun t₀ ht hW => ⟨⟨(-3), (k_fn [], k_fa [qTy], k_fl [], k_fL [], k_fp []), rfl, ⟨(show ((-3) : Int32) = if (2 : Int32) = 0 then (if qTy 0 = 0 then -3 else qTy 0 - 1) else if (2 : Int32) = 1 then (if qTy 1 = 0 then -3 else qTy 1 - 1) else if (2 : Int32) = 2 then (if qTy 2 = 0 then -3 else qTy 2 - 1) else -2 from (((((((if_pos (c_8)).symm).trans (if_pos (rfl)).symm)).trans (if_neg (show ¬ ((2 : Int32) = 1) from (fun z => absurd z (by decide)))).symm)).trans (if_neg (show ¬ ((2 : Int32) = 0) from (fun z => absurd z (by decide)))).symm)), hh0, hh1, hh2, (show qTy 0 = if (2 : Int32) = 0 ∧ ¬ qTy 0 = 0 then qTy 0 - 1 else qTy 0 from (if_neg (show ¬ ((2 : Int32) = 0 ∧ ¬ qTy 0 = 0) from (fun z => (fun z => absurd z (by decide)) z.1))).symm), (show qTy 1 = if (2 : Int32) = 1 ∧ ¬ qTy 1 = 0 then qTy 1 - 1 else qTy 1 from (if_neg (show ¬ ((2 : Int32) = 1 ∧ ¬ qTy 1 = 0) from (fun z => (fun z => absurd z (by decide)) z.1))).symm), (show qTy 2 = if (2 : Int32) = 2 ∧ ¬ qTy 2 = 0 then qTy 2 - 1 else qTy 2 from (if_neg (show ¬ ((2 : Int32) = 2 ∧ ¬ qTy 2 = 0) from (fun z => (fun z => z c_8) z.2))).symm)⟩, by rw [ht]; exact hP9, va_K.moved hW.alike hK, hD9⟩, hS.F ht⟩) hS.2.2 dX12_undo_21
    exact (lf_g_wipe_4 (qTy 0) (qTy 1) (qTy 2) tt hh0 hh1 hh2 c_2 c_3 c_5 c_7).elim
  rw [if_neg c_2] at hw
  refine k_topi (v := 0) hw ?_
  refine lv_if_ne (tgt := 10) hx₀ hb dX12_undo_4 (by decide) (fun c9 => absurd (by decide +kernel) c9) (fun _ => ?_)
  refine lv_bipush (v := (-2)) hx₀ hb dX12_undo_7 (by decide +kernel) ?_
  obtain ⟨hP9, hD9⟩ := k_c2 (wc := [(kX12 hm vFo vSi vIt vMo la vBy vTy mi vMi pn vPs gn vGs fn vFt le vTo kn fe en ca an co vPr vSt vFn sn vSg vAl dr), (kAI vTy cI 3 qTy)]) hP hD [0, 1] (by decide +kernel) rfl
  exact W.iret (v := (-2)) hx₀ hb hr (fun t₀ ht hW => ⟨⟨(-2), (k_fn [], k_fa [qTy], k_fl [], k_fL [], k_fp []), rfl, ⟨(show ((-2) : Int32) = if tt = 0 then (if qTy 0 = 0 then -3 else qTy 0 - 1) else if tt = 1 then (if qTy 1 = 0 then -3 else qTy 1 - 1) else if tt = 2 then (if qTy 2 = 0 then -3 else qTy 2 - 1) else -2 from (((((if_neg (lf_g_wipe_5 tt c_2)).symm).trans (if_neg (lf_g_wipe_6 tt c_2)).symm)).trans (if_neg (lf_g_wipe_7 tt c_2)).symm)), hh0, hh1, hh2, (show qTy 0 = if tt = 0 ∧ ¬ qTy 0 = 0 then qTy 0 - 1 else qTy 0 from (if_neg (lf_g_undo_4 (qTy 0) tt hh0 c_2)).symm), (show qTy 1 = if tt = 1 ∧ ¬ qTy 1 = 0 then qTy 1 - 1 else qTy 1 from (if_neg (lf_g_undo_5 (qTy 1) tt hh1 c_2)).symm), (show qTy 2 = if tt = 2 ∧ ¬ qTy 2 = 0 then qTy 2 - 1 else qTy 2 from (if_neg (lf_g_undo_6 (qTy 2) tt hh2 c_2)).symm)⟩, by rw [ht]; exact hP9, va_K.moved hW.alike hK, hD9⟩, hS.F ht⟩) hS.2.2 dX12_undo_9
