theorem lf_g_sheet_1 (a0 : Int32) (h0 : 0 ≤ a0 ∧ a0 ≤ 3) : 0 ≤ a0.toInt ∧ a0.toInt < 4 := by
  first | rfl | assumption | decide | exact Or.inl rfl | (first | rfl | assumption | decide | omega | (have hr0 := Int32.toInt_lt a0; have hs0 := Int32.le_toInt a0; simp only [Int64.toInt_add, Int64.toInt_sub, Int32.toInt_add, Int32.toInt_sub, Int32.toInt_mul, Int64.le_iff_toInt_le, Int64.lt_iff_toInt_lt, Int32.le_iff_toInt_le, Int32.lt_iff_toInt_lt, ← Int32.toInt_inj, ← Int64.toInt_inj, Int32.toInt_toInt64, kc_0, kc_3, kc_4, true_and, and_true, not_true_eq_false, not_false_eq_true] at * <;> ((first | omega | ((try simp (disch := omega) only [k_bm64] at *); (try simp (disch := omega) only [k_bm] at *); (try simp (disch := omega) only [k_bm] at *); omega) | (simp only [Int.bmod] at *; omega)))))
theorem lf_g_sheet_2 (a0 : Int32) (a1 : Int32) (a2 : Nat) (h0 : a0 ≤ 60) (h1 : 0 ≤ a0) (h2 : 0 ≤ a1 ∧ a1 ≤ a0) (h3 : (a0.toInt - a1.toInt).toNat = a2) (h4 : a0 ≤ a1) : 0 ≤ a0.toInt ∧ a0.toInt ≤ 60 := by
  first | rfl | assumption | decide | exact Or.inl rfl | (first | rfl | assumption | decide | omega | (have hr0 := Int32.toInt_lt a0; have hs0 := Int32.le_toInt a0; have hr1 := Int32.toInt_lt a1; have hs1 := Int32.le_toInt a1; simp only [Int64.toInt_add, Int64.toInt_sub, Int32.toInt_add, Int32.toInt_sub, Int32.toInt_mul, Int64.le_iff_toInt_le, Int64.lt_iff_toInt_lt, Int32.le_iff_toInt_le, Int32.lt_iff_toInt_lt, ← Int32.toInt_inj, ← Int64.toInt_inj, Int32.toInt_toInt64, kc_0, kc_60, true_and, and_true, not_true_eq_false, not_false_eq_true] at * <;> ((first | omega | ((try simp (disch := omega) only [k_bm64] at *); (try simp (disch := omega) only [k_bm] at *); (try simp (disch := omega) only [k_bm] at *); omega) | (simp only [Int.bmod] at *; omega)))))
theorem lf_g_sheet_3 (a0 : Int32) (a1 : Int32) (a2 : Nat) (h0 : a0 ≤ 60) (h1 : 0 ≤ a0) (h2 : 0 ≤ a1 ∧ a1 ≤ a0) (h3 : (a0.toInt - a1.toInt).toNat = a2) (h4 : a0 ≤ a1) : ¬ a0 < -10 := by
  first | rfl | assumption | decide | exact Or.inl rfl | (first | rfl | assumption | decide | omega | (have hr0 := Int32.toInt_lt a0; have hs0 := Int32.le_toInt a0; have hr1 := Int32.toInt_lt a1; have hs1 := Int32.le_toInt a1; simp only [Int64.toInt_add, Int64.toInt_sub, Int32.toInt_add, Int32.toInt_sub, Int32.toInt_mul, Int64.le_iff_toInt_le, Int64.lt_iff_toInt_lt, Int32.le_iff_toInt_le, Int32.lt_iff_toInt_lt, ← Int32.toInt_inj, ← Int64.toInt_inj, Int32.toInt_toInt64, kc_m10, kc_0, kc_10, kc_60, true_and, and_true, not_true_eq_false, not_false_eq_true] at * <;> ((first | omega | ((try simp (disch := omega) only [k_bm64] at *); (try simp (disch := omega) only [k_bm] at *); (try simp (disch := omega) only [k_bm] at *); omega) | (simp only [Int.bmod] at *; omega)))))
theorem lf_g_sheet_4 (a0 : Int32) (a1 : Int32) (a2 : Int32) (a3 : Nat) (h0 : 0 ≤ a0 ∧ a0 ≤ 3) (h1 : a1 ≤ 60) (h2 : 0 ≤ a1) (h3 : 0 ≤ a2 ∧ a2 ≤ a1) (h4 : (a1.toInt - a2.toInt).toNat = a3) (h5 : ¬ a1 ≤ a2) : 0 ≤ ((60 * a0) + a2).toInt ∧ ((60 * a0) + a2).toInt < 240 := by
  first | rfl | assumption | decide | exact Or.inl rfl | (first | rfl | assumption | decide | omega | (have hr0 := Int32.toInt_lt a0; have hs0 := Int32.le_toInt a0; have hr1 := Int32.toInt_lt a1; have hs1 := Int32.le_toInt a1; have hr2 := Int32.toInt_lt a2; have hs2 := Int32.le_toInt a2; simp only [Int64.toInt_add, Int64.toInt_sub, Int32.toInt_add, Int32.toInt_sub, Int32.toInt_mul, Int64.le_iff_toInt_le, Int64.lt_iff_toInt_lt, Int32.le_iff_toInt_le, Int32.lt_iff_toInt_lt, ← Int32.toInt_inj, ← Int64.toInt_inj, Int32.toInt_toInt64, kc_0, kc_3, kc_60, kc_240, true_and, and_true, not_true_eq_false, not_false_eq_true] at * <;> ((first | omega | ((try simp (disch := omega) only [k_bm64] at *); (try simp (disch := omega) only [k_bm] at *); (try simp (disch := omega) only [k_bm] at *); omega) | (simp only [Int.bmod] at *; omega)))))
theorem lf_g_sheet_5 (a0 : Int32) (a1 : Int32) (a2 : Nat) (h0 : a0 ≤ 60) (h1 : 0 ≤ a0) (h2 : 0 ≤ a1 ∧ a1 ≤ a0) (h3 : (a0.toInt - a1.toInt).toNat = a2) (h4 : ¬ a0 ≤ a1) : 0 ≤ (a1 + 1) ∧ (a1 + 1) ≤ a0 := by
  first | rfl | assumption | decide | exact Or.inl rfl | (first | rfl | assumption | decide | omega | (have hr0 := Int32.toInt_lt a0; have hs0 := Int32.le_toInt a0; have hr1 := Int32.toInt_lt a1; have hs1 := Int32.le_toInt a1; simp only [Int64.toInt_add, Int64.toInt_sub, Int32.toInt_add, Int32.toInt_sub, Int32.toInt_mul, Int64.le_iff_toInt_le, Int64.lt_iff_toInt_lt, Int32.le_iff_toInt_le, Int32.lt_iff_toInt_lt, ← Int32.toInt_inj, ← Int64.toInt_inj, Int32.toInt_toInt64, kc_0, kc_1, kc_60, true_and, and_true, not_true_eq_false, not_false_eq_true] at * <;> ((first | omega | ((try simp (disch := omega) only [k_bm64] at *); (try simp (disch := omega) only [k_bm] at *); (try simp (disch := omega) only [k_bm] at *); omega) | (simp only [Int.bmod] at *; omega)))))
theorem lf_g_sheet_6 (a0 : Int32) (a1 : Int32) (a2 : Nat) (h0 : a0 ≤ 60) (h1 : 0 ≤ a0) (h2 : 0 ≤ a1 ∧ a1 ≤ a0) (h3 : (a0.toInt - a1.toInt).toNat = a2) (h4 : ¬ a0 ≤ a1) : 0 ≤ a1 ∧ a1.toInt ≤ 1000 := by
  first | rfl | assumption | decide | exact Or.inl rfl | (first | rfl | assumption | decide | omega | (have hr0 := Int32.toInt_lt a0; have hs0 := Int32.le_toInt a0; have hr1 := Int32.toInt_lt a1; have hs1 := Int32.le_toInt a1; simp only [Int64.toInt_add, Int64.toInt_sub, Int32.toInt_add, Int32.toInt_sub, Int32.toInt_mul, Int64.le_iff_toInt_le, Int64.lt_iff_toInt_lt, Int32.le_iff_toInt_le, Int32.lt_iff_toInt_lt, ← Int32.toInt_inj, ← Int64.toInt_inj, Int32.toInt_toInt64, kc_0, kc_60, kc_1000, true_and, and_true, not_true_eq_false, not_false_eq_true] at * <;> ((first | omega | ((try simp (disch := omega) only [k_bm64] at *); (try simp (disch := omega) only [k_bm] at *); (try simp (disch := omega) only [k_bm] at *); omega) | (simp only [Int.bmod] at *; omega)))))
theorem lf_g_sheet_7 (a0 : Int32) (a1 : Int32) (a2 : Nat) (h0 : a0 ≤ 60) (h1 : 0 ≤ a0) (h2 : 0 ≤ a1 ∧ a1 ≤ a0) (h3 : (a0.toInt - a1.toInt).toNat = a2) (h4 : ¬ a0 ≤ a1) : (a0.toInt - (a1 + 1).toInt).toNat < a2 := by
  first | rfl | assumption | decide | exact Or.inl rfl | (first | rfl | assumption | decide | omega | (have hr0 := Int32.toInt_lt a0; have hs0 := Int32.le_toInt a0; have hr1 := Int32.toInt_lt a1; have hs1 := Int32.le_toInt a1; simp only [Int64.toInt_add, Int64.toInt_sub, Int32.toInt_add, Int32.toInt_sub, Int32.toInt_mul, Int64.le_iff_toInt_le, Int64.lt_iff_toInt_lt, Int32.le_iff_toInt_le, Int32.lt_iff_toInt_lt, ← Int32.toInt_inj, ← Int64.toInt_inj, Int32.toInt_toInt64, kc_0, kc_1, kc_60, true_and, and_true, not_true_eq_false, not_false_eq_true] at * <;> ((first | omega | ((try simp (disch := omega) only [k_bm64] at *); (try simp (disch := omega) only [k_bm] at *); (try simp (disch := omega) only [k_bm] at *); omega) | (simp only [Int.bmod] at *; omega)))))
set_option maxHeartbeats 4000000 in
set_option maxRecDepth 100000 in
theorem g_sheet (l : Launch) (dC : Nat → ClassId) (dI : Nat → Nat → Nat) (cI cJ cQ : ClassId) (sz : Nat) (hm : Nat) (ss : Int32) (fm : Int32) (nn : Int32) (vFo : Nat) (vSi : Nat) (vIt : Nat) (vMo : Nat) (la : Int32) (vBy : Nat) (vTy : Nat) (mi : Int32) (vMi : Nat) (pn : Int32) (vPs : Nat) (gn : Int32) (vGs : Nat) (fn : Int32) (vFt : Nat) (le : Int32) (vTo : Nat) (kn : Int32) (fe : Int32) (en : Int32) (ca : Int32) (an : Int32) (co : Int32) (vPr : Nat) (vSt : Nat) (vFn : Nat) (sn : Int32) (vSg : Nat) (vAl : Nat) (dr : Int32) (qFo : Nat → Int32) (qSi : Nat → Int32) (qIt : Nat → Int32) (hh0 : k_bd 4 0 60 qSi) : Met l yX12_sheet (kW yX12_sheet cX12_sheet 5 (some .int)) { frames := 2, cells := 0, slots := 0, locals := 45 } (kPre dC dI cI cJ cQ sz [.ref hm, .int ss, .int fm, .int nn] [(kX12 hm vFo vSi vIt vMo la vBy vTy mi vMi pn vPs gn vGs fn vFt le vTo kn fe en ca an co vPr vSt vFn sn vSg vAl dr), (kAI vFo cI 4 qFo), (kAI vSi cI 4 qSi), (kAI vIt cI 240 qIt)]) (va_Qi (fun (r : Int32) (u : kS) => (r = if 0 ≤ ss ∧ ss ≤ 3 ∧ 0 ≤ fm ∧ fm ≤ 2 ∧ nn ≤ 60 then (if nn < 0 then -15 else nn) else -2) ∧ (k_bd 4 0 60 (u.2.1 1)) ∧ ((u.2.1 0) = if 0 ≤ ss ∧ ss ≤ 3 ∧ 0 ≤ fm ∧ fm ≤ 2 ∧ nn ≤ 60 ∧ ¬ nn < 0 then upd qFo ss.toNatClampNeg fm else qFo) ∧ ((u.2.1 1) = if 0 ≤ ss ∧ ss ≤ 3 ∧ 0 ≤ fm ∧ fm ≤ 2 ∧ nn ≤ 60 ∧ ¬ nn < 0 then upd qSi ss.toNatClampNeg nn else qSi) ∧ ((u.1 0) = kFd r la) ∧ ((u.2.1 2) = if 0 ≤ ss ∧ ss ≤ 3 ∧ 0 ≤ fm ∧ fm ≤ 2 ∧ nn ≤ 60 ∧ ¬ nn < 0 then kZq qIt ss nn else qIt)) (fun (u : kS) t₀ => kB dC dI cI cJ cQ (va_A [(kX12 hm vFo vSi vIt vMo la vBy vTy mi vMi pn vPs gn vGs fn vFt le vTo kn fe en ca an co vPr vSt vFn sn vSg vAl dr), (kAI vFo cI 4 qFo), (kAI vSi cI 4 qSi), (kAI vIt cI 240 qIt)] sz) [(kX12 hm vFo vSi vIt vMo (u.1 0) vBy vTy mi vMi pn vPs gn vGs fn vFt le vTo kn fe en ca an co vPr vSt vFn sn vSg vAl dr), (kAI vFo cI 4 (u.2.1 0)), (kAI vSi cI 4 (u.2.1 1)), (kAI vIt cI 240 (u.2.1 2))] t₀) (va_A [(kX12 hm vFo vSi vIt vMo la vBy vTy mi vMi pn vPs gn vGs fn vFt le vTo kn fe en ca an co vPr vSt vFn sn vSg vAl dr), (kAI vFo cI 4 qFo), (kAI vSi cI 4 qSi), (kAI vIt cI 240 qIt)] sz)) 0 0 (va_A [(kX12 hm vFo vSi vIt vMo la vBy vTy mi vMi pn vPs gn vGs fn vFt le vTo kn fe en ca an co vPr vSt vFn sn vSg vAl dr), (kAI vFo cI 4 qFo), (kAI vSi cI 4 qSi), (kAI vIt cI 240 qIt)] sz) := by
  refine Met.ofW (cc := cX12_sheet) (maxL := 5) (ret := (some .int)) (by decide) rfl ?_
  intro p₀ e₀ s₀ m₀ args below meth c₀ s₁ B hml hv₀
  obtain ⟨rfl, hsz, hP, hK, hD0, hN⟩ := hv₀
  have hx₀ := B.exec
  have hb := B.bytes
  have hr := B.returns
  have hts := atoms_spec (ws := (kW yX12_sheet cX12_sheet 5 (some .int))) B.pre
  have hts := fun w h => hts w (List.mem_cons_of_mem _ h)
  have hown : s₀.vm.findClass RX12 = some m₀.cls := findClass_of_methodNamed B.named
  have hlocks := B.notSynchronized
  subst hsz
  have hD := hD0.self (sz := s₀.heap.size)
  generalize hAe : va_A [(kX12 hm vFo vSi vIt vMo la vBy vTy mi vMi pn vPs gn vGs fn vFt le vTo kn fe en ca an co vPr vSt vFn sn vSg vAl dr), (kAI vFo cI 4 qFo), (kAI vSi cI 4 qSi), (kAI vIt cI 240 qIt)] s₀.heap.size = A at hD ⊢
  have hA : ∀ q : Nat, s₀.heap.size ≤ q → A q := fun q h => by rw [← hAe]; exact Or.inr h
  have hS : va_S A s₀.heap s₀.heap [] := va_S.rf
  have hP : va_P (dC, dI) vwCl [(kX12 hm vFo vSi vIt vMo la vBy vTy mi vMi pn vPs gn vGs fn vFt le vTo kn fe en ca an co vPr vSt vFn sn vSg vAl dr), (kAI vFo cI 4 qFo), (kAI vSi cI 4 qSi), (kAI vIt cI 240 qIt)] s₀.heap := hP
  have hl := lv_entry ([.ref hm, .int ss, .int fm, .int nn]) (n := 5) (Nat.le_of_ble_eq_true rfl)
  rw [lg_entry_eq]
  generalize (lg_sl ([.ref hm, .int ss, .int fm, .int nn]) ++ List.replicate (5 - (lg_sl ([.ref hm, .int ss, .int fm, .int nn])).length) Slot.unset).toArray = ls at hl ⊢
  have hl : lv_has ls 5 [(0, .ref hm), (1, .int ss), (2, .int fm), (3, .int nn)] := hl
  obtain ⟨H, hH⟩ : ∃ z : Heap, z = s₀.heap := ⟨_, rfl⟩
  rw [← hH] at hP
  have hS : va_S A s₀.heap H [] := by rw [hH]; exact hS
  refine k_heap hH ?_
  have hD : va_D A [(kX12 hm vFo vSi vIt vMo la vBy vTy mi vMi pn vPs gn vGs fn vFt le vTo kn fe en ca an co vPr vSt vFn sn vSg vAl dr), (kAI vFo cI 4 qFo), (kAI vSi cI 4 qSi), (kAI vIt cI 240 qIt)] := hD
  obtain ⟨locs, hlo⟩ : ∃ z : List Loc, z = [] := ⟨_, rfl⟩
  rw [← hlo] at hS ⊢
  clear hlo hH hAe hD0
  refine lv_iload_n hx₀ hb dX12_sheet_0 rfl (lv_at hl 1 rfl) ?_
  obtain ⟨hPc, hDc, hFc, hC⟩ := k_cw (wc := []) hP hD hS hA [] (by decide +kernel) rfl
  refine va_calli (va_runS (As := [.int ss]) (rest := []) ⟨hx₀, hb, hml, hown, hts⟩ (c_isSheet l dC dI cI cJ cQ H.size ss) (va_cwS 1 hts (kGS wd_400 wd_398 wd_399 wd_5) rfl rfl rfl (by decide +kernel) ⟨Nat.le_of_ble_eq_true rfl, Nat.le_of_ble_eq_true rfl⟩) (k_preS hK hPc hDc hN) rfl rfl hl.1 rfl (lv_room (Nat.le_of_ble_eq_true rfl)) dX12_sheet_1 ⟨by decide +kernel, by decide +kernel⟩) hS (fun q _ h => hFc q h) hFc (fun r_1 u₀ t₀ H1 locs ht hvm hw hB hz1 hk1 hS => ?_)
  obtain ⟨hP1, hK1, hD1⟩ := hB
  rw [ht] at hP1
  have hJ := k_jn (wr := [(kX12 hm vFo vSi vIt vMo la vBy vTy mi vMi pn vPs gn vGs fn vFt le vTo kn fe en ca an co vPr vSt vFn sn vSg vAl dr), (kAI vFo cI 4 qFo), (kAI vSi cI 4 qSi), (kAI vIt cI 240 qIt)]) (wt := [(kX12 hm vFo vSi vIt vMo la vBy vTy mi vMi pn vPs gn vGs fn vFt le vTo kn fe en ca an co vPr vSt vFn sn vSg vAl dr), (kAI vFo cI 4 qFo), (kAI vSi cI 4 qSi), (kAI vIt cI 240 qIt)]) hP hD hC [0, 1, 2, 3] rfl (by decide +kernel) (by decide +kernel) hk1 hFc hP1 hD1 rfl
  clear hP hD hPc hDc hFc hC hP1 hD1 hK1 hz1 hk1 hvm ht
  obtain ⟨hP, hD⟩ := hJ
  generalize H1 = H at hP hS ⊢
  try dsimp only at hw
  by_cases c_2 : 0 ≤ ss ∧ ss ≤ 3
  · rw [if_pos c_2] at hw
    refine k_topi (v := 1) hw ?_
    refine lv_if_eq (tgt := 25) hx₀ hb dX12_sheet_4 (by decide) (fun c9 => absurd c9 (by decide +kernel)) (fun _ => ?_)
    refine lv_iload_n hx₀ hb dX12_sheet_7 rfl (lv_at hl 2 rfl) ?_
    refine lv_i2l hx₀ hb dX12_sheet_8 rfl ?_
    refine lv_lconst (v := 0) hx₀ hb dX12_sheet_9 (by decide +kernel) ?_
    refine lv_ldc2 (v := 2) hx₀ hb hown (hts (.constantLong RX12 78 (2)) wd_205) dX12_sheet_10 ?_
    obtain ⟨hPc, hDc, hFc, hC⟩ := k_cw (wc := []) hP hD hS hA [] (by decide +kernel) rfl
    refine va_calli (va_runS (As := [.long fm.toInt64, .long 0, .long 2]) (rest := []) ⟨hx₀, hb, hml, hown, hts⟩ (c_in l dC dI cI cJ cQ H.size fm.toInt64 0 2) (va_cwS 3 hts (kGS wd_208 wd_206 wd_207 wd_5) rfl rfl rfl (by decide +kernel) ⟨Nat.le_of_ble_eq_true rfl, Nat.le_of_ble_eq_true rfl⟩) (k_preS hK hPc hDc hN) rfl rfl hl.1 rfl (lv_room (Nat.le_of_ble_eq_true rfl)) dX12_sheet_13 ⟨by decide +kernel, by decide +kernel⟩) hS (fun q _ h => hFc q h) hFc (fun r_3 u₀ t₀ H1 locs ht hvm hw hB hz1 hk1 hS => ?_)
    obtain ⟨hP1, hK1, hD1⟩ := hB
    rw [ht] at hP1
    have hJ := k_jn (wr := [(kX12 hm vFo vSi vIt vMo la vBy vTy mi vMi pn vPs gn vGs fn vFt le vTo kn fe en ca an co vPr vSt vFn sn vSg vAl dr), (kAI vFo cI 4 qFo), (kAI vSi cI 4 qSi), (kAI vIt cI 240 qIt)]) (wt := [(kX12 hm vFo vSi vIt vMo la vBy vTy mi vMi pn vPs gn vGs fn vFt le vTo kn fe en ca an co vPr vSt vFn sn vSg vAl dr), (kAI vFo cI 4 qFo), (kAI vSi cI 4 qSi), (kAI vIt cI 240 qIt)]) hP hD hC [0, 1, 2, 3] rfl (by decide +kernel) (by decide +kernel) hk1 hFc hP1 hD1 rfl
    clear hP hD hPc hDc hFc hC hP1 hD1 hK1 hz1 hk1 hvm ht
    obtain ⟨hP, hD⟩ := hJ
    generalize H1 = H at hP hS ⊢
    try dsimp only at hw
    by_cases c_4 : (0 : Int64) ≤ fm.toInt64 ∧ fm.toInt64 ≤ (2 : Int64)
    · rw [if_pos c_4] at hw
      refine k_topi (v := 1) hw ?_
      refine lv_if_eq (tgt := 25) hx₀ hb dX12_sheet_16 (by decide) (fun c9 => absurd c9 (by decide +kernel)) (fun _ => ?_)
      refine lv_iload_n hx₀ hb dX12_sheet_19 rfl (lv_at hl 3 rfl) ?_
      refine lv_bipush (v := 60) hx₀ hb dX12_sheet_20 (by decide +kernel) ?_
      refine lv_icmp_le (tgt := 28) hx₀ hb dX12_sheet_22 (by decide) (fun c_5 => ?_) (fun c_5 => ?_)
      · refine lv_iload_n hx₀ hb dX12_sheet_28 rfl (lv_at hl 3 rfl) ?_
        refine lv_if_ge (tgt := 38) hx₀ hb dX12_sheet_29 (by decide) (fun c_6 => ?_) (fun c_6 => ?_)
        · refine lv_aload_n hx₀ hb dX12_sheet_38 rfl (lv_at hl 0 rfl) ?_
          refine va_get (D := (dC, dI)) (ci := 11) (v := .ref vFo) (C := RX12) (T := TX12) (N := 30) hx₀ hb hts inlX12 hown hK hP 0 rfl rfl 0 (by decide) (hts (.fieldLink RX12 7 "BittenStickModel" "forms" "[I") wd_115) (fun _ h9 => h9) rfl dX12_sheet_39 ?_
          refine lv_iload_n hx₀ hb dX12_sheet_42 rfl (lv_at hl 1 rfl) ?_
          refine lv_iload_n hx₀ hb dX12_sheet_43 rfl (lv_at hl 2 rfl) ?_
          refine va_iast hx₀ hb hK hP hD hS 1 0 rfl rfl (vp_in_iff.mpr (lf_g_sheet_1 ss c_2)) dX12_sheet_44 ?_
          clear hP hD hS
          intro H locs hP hD hS
          replace hP := k_w2 (wt := [(kX12 hm vFo vSi vIt vMo la vBy vTy mi vMi pn vPs gn vGs fn vFt le vTo kn fe en ca an co vPr vSt vFn sn vSg vAl dr), (kAI vFo cI 4 (upd qFo ss.toNatClampNeg fm)), (kAI vSi cI 4 qSi), (kAI vIt cI 240 qIt)]) hP hD rfl
          replace hD := hP.2
          replace hP := hP.1
          refine lv_aload_n hx₀ hb dX12_sheet_45 rfl (lv_at hl 0 rfl) ?_
          refine va_get (D := (dC, dI)) (ci := 11) (v := .ref vSi) (C := RX12) (T := TX12) (N := 30) hx₀ hb hts inlX12 hown hK hP 0 rfl rfl 1 (by decide) (hts (.fieldLink RX12 13 "BittenStickModel" "sizes" "[I") wd_116) (fun _ h9 => h9) rfl dX12_sheet_46 ?_
          refine lv_iload_n hx₀ hb dX12_sheet_49 rfl (lv_at hl 1 rfl) ?_
          refine lv_iload_n hx₀ hb dX12_sheet_50 rfl (lv_at hl 3 rfl) ?_
          refine va_iast hx₀ hb hK hP hD hS 2 0 rfl rfl (vp_in_iff.mpr (lf_g_sheet_1 ss c_2)) dX12_sheet_51 ?_
          clear hP hD hS
          intro H locs hP hD hS
          replace hP := k_w2 (wt := [(kX12 hm vFo vSi vIt vMo la vBy vTy mi vMi pn vPs gn vGs fn vFt le vTo kn fe en ca an co vPr vSt vFn sn vSg vAl dr), (kAI vFo cI 4 (upd qFo ss.toNatClampNeg fm)), (kAI vSi cI 4 (upd qSi ss.toNatClampNeg nn)), (kAI vIt cI 240 qIt)]) hP hD rfl
          replace hD := hP.2
          replace hP := hP.1
          refine lv_iconst (v := 0) hx₀ hb dX12_sheet_52 (by decide +kernel) ?_
          refine lv_istore (lv' := [(4, .int 0), (0, .ref hm), (1, .int ss), (2, .int fm), (3, .int nn)]) hx₀ hb dX12_sheet_53 hl (by decide) rfl (fun ls hl => ?_)
          refine (?keyz7 : ∀ (jz7 : Nat) (iz7 : Int32) (qmz7 : Nat → Int32) (H : Heap) (locs : List Loc) (ls : Array Slot), (0 ≤ iz7 ∧ iz7 ≤ nn) → (qmz7 = kZq qIt ss iz7) → ((nn.toInt - iz7.toInt).toNat = jz7) → va_P (dC, dI) vwCl [(kX12 hm vFo vSi vIt vMo la vBy vTy mi vMi pn vPs gn vGs fn vFt le vTo kn fe en ca an co vPr vSt vFn sn vSg vAl dr), (kAI vFo cI 4 (upd qFo ss.toNatClampNeg fm)), (kAI vSi cI 4 (upd qSi ss.toNatClampNeg nn)), (kAI vIt cI 240 qmz7)] H → va_D A [(kX12 hm vFo vSi vIt vMo la vBy vTy mi vMi pn vPs gn vGs fn vFt le vTo kn fe en ca an co vPr vSt vFn sn vSg vAl dr), (kAI vFo cI 4 (upd qFo ss.toNatClampNeg fm)), (kAI vSi cI 4 (upd qSi ss.toNatClampNeg nn)), (kAI vIt cI 240 qmz7)] → va_S A s₀.heap H locs → lv_has ls 5 [(4, .int iz7), (0, .ref hm), (1, .int ss), (2, .int fm), (3, .int nn)] → W p₀ l e₀ _ s₀ m₀ _ below meth c₀ H locs _ _ _ (F0 m₀ 55 ls [])) _ (0 : Int32) _ H locs ls (show 0 ≤ (0 : Int32) ∧ (0 : Int32) ≤ nn from ⟨(by decide), c_6⟩) (kZq_0) rfl hP hD hS hl
          clear hP hD hS hl
          intro jz7
          induction jz7 using Nat.strongRecOn with
          | ind jz7 ihz7 =>
            intro iz7 qmz7 H locs ls hiz7_0 hiz7_1 hjz7 hP hD hS hl
            refine lv_iload hx₀ hb dX12_sheet_55 (lv_at hl 0 rfl) ?_
            refine lv_iload_n hx₀ hb dX12_sheet_57 rfl (lv_at hl 4 rfl) ?_
            refine lv_icmp_ge (tgt := 80) hx₀ hb dX12_sheet_58 (by decide) (fun c_8 => ?_) (fun c_8 => ?_)
            · refine lv_iload_n hx₀ hb dX12_sheet_80 rfl (lv_at hl 4 rfl) ?_
              obtain ⟨hP9, hD9⟩ := k_c2 (wc := [(kX12 hm vFo vSi vIt vMo la vBy vTy mi vMi pn vPs gn vGs fn vFt le vTo kn fe en ca an co vPr vSt vFn sn vSg vAl dr), (kAI vFo cI 4 (upd qFo ss.toNatClampNeg fm)), (kAI vSi cI 4 (upd qSi ss.toNatClampNeg nn)), (kAI vIt cI 240 qmz7)]) hP hD [0, 1, 2, 3] (by decide +kernel) rfl
              exact W.iret (v := nn) hx₀ hb hr (fun t₀ ht hW => ⟨⟨nn, (k_fn [la], k_fa [upd qFo ss.toNatClampNeg fm, upd qSi ss.toNatClampNeg nn, qmz7], k_fl [], k_fL [], k_fp []), rfl, ⟨(show (nn : Int32) = if 0 ≤ ss ∧ ss ≤ 3 ∧ 0 ≤ fm ∧ fm ≤ 2 ∧ nn ≤ 60 then (if nn < 0 then -15 else nn) else -2 from (((if_neg (show ¬ (nn < 0) from (Int32.not_lt.mpr c_6))).symm).trans (if_pos (show 0 ≤ ss ∧ ss ≤ 3 ∧ 0 ≤ fm ∧ fm ≤ 2 ∧ nn ≤ 60 from ⟨c_2.1, c_2.2, ((k_64 (a := fm) (l := 0) (h := 2) (by decide) (by decide)).mp c_4).1, ((k_64 (a := fm) (l := 0) (h := 2) (by decide) (by decide)).mp c_4).2, c_5⟩)).symm)), (k_bd_upd hh0 (lf_g_sheet_2 nn iz7 jz7 c_5 c_6 hiz7_0 hjz7 c_8)), (if_pos (show 0 ≤ ss ∧ ss ≤ 3 ∧ 0 ≤ fm ∧ fm ≤ 2 ∧ nn ≤ 60 ∧ ¬ nn < 0 from ⟨c_2.1, c_2.2, ((k_64 (a := fm) (l := 0) (h := 2) (by decide) (by decide)).mp c_4).1, ((k_64 (a := fm) (l := 0) (h := 2) (by decide) (by decide)).mp c_4).2, c_5, (Int32.not_lt.mpr c_6)⟩)).symm, (if_pos (show 0 ≤ ss ∧ ss ≤ 3 ∧ 0 ≤ fm ∧ fm ≤ 2 ∧ nn ≤ 60 ∧ ¬ nn < 0 from ⟨c_2.1, c_2.2, ((k_64 (a := fm) (l := 0) (h := 2) (by decide) (by decide)).mp c_4).1, ((k_64 (a := fm) (l := 0) (h := 2) (by decide) (by decide)).mp c_4).2, c_5, (Int32.not_lt.mpr c_6)⟩)).symm, (kFd_ge (lf_g_sheet_3 nn iz7 jz7 c_5 c_6 hiz7_0 hjz7 c_8)).symm, ((hiz7_1.trans (by rw [show iz7 = nn from show iz7 = nn from (Int32.le_antisymm hiz7_0.2 c_8)])).trans (if_pos (show 0 ≤ ss ∧ ss ≤ 3 ∧ 0 ≤ fm ∧ fm ≤ 2 ∧ nn ≤ 60 ∧ ¬ nn < 0 from ⟨c_2.1, c_2.2, ((k_64 (a := fm) (l := 0) (h := 2) (by decide) (by decide)).mp c_4).1, ((k_64 (a := fm) (l := 0) (h := 2) (by decide) (by decide)).mp c_4).2, c_5, (Int32.not_lt.mpr c_6)⟩)).symm)⟩, by rw [ht]; exact hP9, va_K.moved hW.alike hK, hD9⟩, hS.F ht⟩) hS.2.2 dX12_sheet_81
            · refine lv_aload_n hx₀ hb dX12_sheet_61 rfl (lv_at hl 1 rfl) ?_
              refine va_get (D := (dC, dI)) (ci := 11) (v := .ref vIt) (C := RX12) (T := TX12) (N := 30) hx₀ hb hts inlX12 hown hK hP 0 rfl rfl 2 (by decide) (hts (.fieldLink RX12 16 "BittenStickModel" "items" "[I") wd_117) (fun _ h9 => h9) rfl dX12_sheet_62 ?_
              refine lv_bipush (v := 60) hx₀ hb dX12_sheet_65 (by decide +kernel) ?_
              refine lv_iload_n hx₀ hb dX12_sheet_67 rfl (lv_at hl 2 rfl) ?_
              refine lv_imul hx₀ hb dX12_sheet_68 ?_
              refine lv_iload hx₀ hb dX12_sheet_69 (lv_at hl 0 rfl) ?_
              refine lv_iadd hx₀ hb dX12_sheet_71 ?_
              refine lv_iconst (v := 0) hx₀ hb dX12_sheet_72 (by decide +kernel) ?_
              refine va_iast hx₀ hb hK hP hD hS 3 0 rfl rfl (vp_in_iff.mpr (lf_g_sheet_4 ss nn iz7 jz7 c_2 c_5 c_6 hiz7_0 hjz7 c_8)) dX12_sheet_73 ?_
              clear hP hD hS
              intro H locs hP hD hS
              replace hP := k_w2 (wt := [(kX12 hm vFo vSi vIt vMo la vBy vTy mi vMi pn vPs gn vGs fn vFt le vTo kn fe en ca an co vPr vSt vFn sn vSg vAl dr), (kAI vFo cI 4 (upd qFo ss.toNatClampNeg fm)), (kAI vSi cI 4 (upd qSi ss.toNatClampNeg nn)), (kAI vIt cI 240 (upd qmz7 ((60 * ss) + iz7).toNatClampNeg 0))]) hP hD rfl
              replace hD := hP.2
              replace hP := hP.1
              refine lv_iinc (v := iz7 + 1) (lv' := [(4, .int (iz7 + 1)), (0, .ref hm), (1, .int ss), (2, .int fm), (3, .int nn)]) hx₀ hb dX12_sheet_74 hl (k := 0) rfl rfl (by decide) rfl (fun ls hl => ?_)
              refine lv_goto (tgt := 55) hx₀ hb dX12_sheet_77 (by decide) ?_
              exact ihz7 _ (lf_g_sheet_7 nn iz7 jz7 c_5 c_6 hiz7_0 hjz7 c_8) (iz7 + 1) (upd qmz7 ((60 * ss) + iz7).toNatClampNeg 0) _ _ _ (lf_g_sheet_5 nn iz7 jz7 c_5 c_6 hiz7_0 hjz7 c_8) (kZq_s c_2 (lf_g_sheet_6 nn iz7 jz7 c_5 c_6 hiz7_0 hjz7 c_8) hiz7_1) rfl (hP.sub [0, 1, 2, 3] rfl) (hD.sub [0, 1, 2, 3] (by decide +kernel) rfl) hS (lv_sub hl [0, 1, 2, 3, 4] rfl)
        · refine lv_aload_n hx₀ hb dX12_sheet_32 rfl (lv_at hl 0 rfl) ?_
          refine lv_iconst (v := 5) hx₀ hb dX12_sheet_33 (by decide +kernel) ?_
          obtain ⟨hPc, hDc, hFc, hC⟩ := k_cw (wc := [(kX12 hm vFo vSi vIt vMo la vBy vTy mi vMi pn vPs gn vGs fn vFt le vTo kn fe en ca an co vPr vSt vFn sn vSg vAl dr)]) hP hD hS hA [0] (by decide +kernel) rfl
          refine va_calli (va_runV (As := [.int 5]) (rest := []) ⟨hx₀, hb, hml, hown, hts⟩ (g_finds5 l dC dI cI cJ cQ H.size hm vFo vSi vIt vMo la vBy vTy mi vMi pn vPs gn vGs fn vFt le vTo kn fe en ca an co vPr vSt vFn sn vSg vAl dr) (cwV 1 hts (kGV wd_404 wd_401 wd_402 wd_403 wd_5) rfl rfl rfl (by decide +kernel) ⟨Nat.le_of_ble_eq_true rfl, Nat.le_of_ble_eq_true rfl⟩) (k_preV11 (q0 := 0) hK hPc hDc hN rfl) rfl rfl hl.1 rfl (lv_room (Nat.le_of_ble_eq_true rfl)) dX12_sheet_34 ⟨by decide +kernel, by decide +kernel⟩) hS (fun q _ h => hFc q h) hFc (fun r_9 u₀ t₀ H1 locs ht hvm hw hB hz1 hk1 hS => ?_)
          obtain ⟨hP1, hK1, hD1⟩ := hB
          rw [ht] at hP1
          have hJ := k_jn (wr := [(kAI vFo cI 4 qFo), (kAI vSi cI 4 qSi), (kAI vIt cI 240 qIt)]) (wt := [(kAI vFo cI 4 qFo), (kAI vSi cI 4 qSi), (kAI vIt cI 240 qIt), (kX12 hm vFo vSi vIt vMo 5 vBy vTy mi vMi pn vPs gn vGs fn vFt le vTo kn fe en ca an co vPr vSt vFn sn vSg vAl dr)]) hP hD hC [1, 2, 3] rfl (by decide +kernel) (by decide +kernel) hk1 hFc hP1 hD1 rfl
          clear hP hD hPc hDc hFc hC hP1 hD1 hK1 hz1 hk1 hvm ht
          obtain ⟨hP, hD⟩ := hJ
          generalize H1 = H at hP hS ⊢
          try dsimp only at hw
          refine k_topi (v := (-15)) hw ?_
          obtain ⟨hP9, hD9⟩ := k_c2 (wc := [(kX12 hm vFo vSi vIt vMo 5 vBy vTy mi vMi pn vPs gn vGs fn vFt le vTo kn fe en ca an co vPr vSt vFn sn vSg vAl dr), (kAI vFo cI 4 qFo), (kAI vSi cI 4 qSi), (kAI vIt cI 240 qIt)]) hP hD [3, 0, 1, 2] (by decide +kernel) rfl
          exact W.iret (v := (-15)) hx₀ hb hr (fun t₀ ht hW => ⟨⟨(-15), (k_fn [(5 : Int32)], k_fa [qFo, qSi, qIt], k_fl [], k_fL [], k_fp []), rfl, ⟨(show ((-15) : Int32) = if 0 ≤ ss ∧ ss ≤ 3 ∧ 0 ≤ fm ∧ fm ≤ 2 ∧ nn ≤ 60 then (if nn < 0 then -15 else nn) else -2 from (((if_pos (show nn < 0 from (Int32.not_le.mp c_6))).symm).trans (if_pos (show 0 ≤ ss ∧ ss ≤ 3 ∧ 0 ≤ fm ∧ fm ≤ 2 ∧ nn ≤ 60 from ⟨c_2.1, c_2.2, ((k_64 (a := fm) (l := 0) (h := 2) (by decide) (by decide)).mp c_4).1, ((k_64 (a := fm) (l := 0) (h := 2) (by decide) (by decide)).mp c_4).2, c_5⟩)).symm)), hh0, (if_neg (show ¬ (0 ≤ ss ∧ ss ≤ 3 ∧ 0 ≤ fm ∧ fm ≤ 2 ∧ nn ≤ 60 ∧ ¬ nn < 0) from (fun z => (fun z => z (Int32.not_le.mp c_6)) z.2.2.2.2.2))).symm, (if_neg (show ¬ (0 ≤ ss ∧ ss ≤ 3 ∧ 0 ≤ fm ∧ fm ≤ 2 ∧ nn ≤ 60 ∧ ¬ nn < 0) from (fun z => (fun z => z (Int32.not_le.mp c_6)) z.2.2.2.2.2))).symm, kFd_15.symm, (if_neg (show ¬ (0 ≤ ss ∧ ss ≤ 3 ∧ 0 ≤ fm ∧ fm ≤ 2 ∧ nn ≤ 60 ∧ ¬ nn < 0) from (fun z => (fun z => z (Int32.not_le.mp c_6)) z.2.2.2.2.2))).symm⟩, by rw [ht]; exact hP9, va_K.moved hW.alike hK, hD9⟩, hS.F ht⟩) hS.2.2 dX12_sheet_37
      · refine lv_bipush (v := (-2)) hx₀ hb dX12_sheet_25 (by decide +kernel) ?_
        obtain ⟨hP9, hD9⟩ := k_c2 (wc := [(kX12 hm vFo vSi vIt vMo la vBy vTy mi vMi pn vPs gn vGs fn vFt le vTo kn fe en ca an co vPr vSt vFn sn vSg vAl dr), (kAI vFo cI 4 qFo), (kAI vSi cI 4 qSi), (kAI vIt cI 240 qIt)]) hP hD [0, 1, 2, 3] (by decide +kernel) rfl
        exact W.iret (v := (-2)) hx₀ hb hr (fun t₀ ht hW => ⟨⟨(-2), (k_fn [la], k_fa [qFo, qSi, qIt], k_fl [], k_fL [], k_fp []), rfl, ⟨(show ((-2) : Int32) = if 0 ≤ ss ∧ ss ≤ 3 ∧ 0 ≤ fm ∧ fm ≤ 2 ∧ nn ≤ 60 then (if nn < 0 then -15 else nn) else -2 from (if_neg (show ¬ (0 ≤ ss ∧ ss ≤ 3 ∧ 0 ≤ fm ∧ fm ≤ 2 ∧ nn ≤ 60) from (fun z => c_5 z.2.2.2.2))).symm), hh0, (if_neg (show ¬ (0 ≤ ss ∧ ss ≤ 3 ∧ 0 ≤ fm ∧ fm ≤ 2 ∧ nn ≤ 60 ∧ ¬ nn < 0) from (fun z => c_5 z.2.2.2.2.1))).symm, (if_neg (show ¬ (0 ≤ ss ∧ ss ≤ 3 ∧ 0 ≤ fm ∧ fm ≤ 2 ∧ nn ≤ 60 ∧ ¬ nn < 0) from (fun z => c_5 z.2.2.2.2.1))).symm, (kFd_ge (by decide)).symm, (if_neg (show ¬ (0 ≤ ss ∧ ss ≤ 3 ∧ 0 ≤ fm ∧ fm ≤ 2 ∧ nn ≤ 60 ∧ ¬ nn < 0) from (fun z => c_5 z.2.2.2.2.1))).symm⟩, by rw [ht]; exact hP9, va_K.moved hW.alike hK, hD9⟩, hS.F ht⟩) hS.2.2 dX12_sheet_27
    rw [if_neg c_4] at hw
    refine k_topi (v := 0) hw ?_
    refine lv_if_eq (tgt := 25) hx₀ hb dX12_sheet_16 (by decide) (fun _ => ?_) (fun c9 => absurd (by decide +kernel) c9)
    refine lv_bipush (v := (-2)) hx₀ hb dX12_sheet_25 (by decide +kernel) ?_
    obtain ⟨hP9, hD9⟩ := k_c2 (wc := [(kX12 hm vFo vSi vIt vMo la vBy vTy mi vMi pn vPs gn vGs fn vFt le vTo kn fe en ca an co vPr vSt vFn sn vSg vAl dr), (kAI vFo cI 4 qFo), (kAI vSi cI 4 qSi), (kAI vIt cI 240 qIt)]) hP hD [0, 1, 2, 3] (by decide +kernel) rfl
    exact W.iret (v := (-2)) hx₀ hb hr (fun t₀ ht hW => ⟨⟨(-2), (k_fn [la], k_fa [qFo, qSi, qIt], k_fl [], k_fL [], k_fp []), rfl, ⟨(show ((-2) : Int32) = if 0 ≤ ss ∧ ss ≤ 3 ∧ 0 ≤ fm ∧ fm ≤ 2 ∧ nn ≤ 60 then (if nn < 0 then -15 else nn) else -2 from (if_neg (show ¬ (0 ≤ ss ∧ ss ≤ 3 ∧ 0 ≤ fm ∧ fm ≤ 2 ∧ nn ≤ 60) from (fun z => (fun z => c_4 ((k_64 (a := fm) (l := 0) (h := 2) (by decide) (by decide)).mpr z)) (And.intro z.2.2.1 z.2.2.2.1)))).symm), hh0, (if_neg (show ¬ (0 ≤ ss ∧ ss ≤ 3 ∧ 0 ≤ fm ∧ fm ≤ 2 ∧ nn ≤ 60 ∧ ¬ nn < 0) from (fun z => (fun z => c_4 ((k_64 (a := fm) (l := 0) (h := 2) (by decide) (by decide)).mpr z)) (And.intro z.2.2.1 z.2.2.2.1)))).symm, (if_neg (show ¬ (0 ≤ ss ∧ ss ≤ 3 ∧ 0 ≤ fm ∧ fm ≤ 2 ∧ nn ≤ 60 ∧ ¬ nn < 0) from (fun z => (fun z => c_4 ((k_64 (a := fm) (l := 0) (h := 2) (by decide) (by decide)).mpr z)) (And.intro z.2.2.1 z.2.2.2.1)))).symm, (kFd_ge (by decide)).symm, (if_neg (show ¬ (0 ≤ ss ∧ ss ≤ 3 ∧ 0 ≤ fm ∧ fm ≤ 2 ∧ nn ≤ 60 ∧ ¬ nn < 0) from (fun z => (fun z => c_4 ((k_64 (a := fm) (l := 0) (h := 2) (by decide) (by decide)).mpr z)) (And.intro z.2.2.1 z.2.2.2.1)))).symm⟩, by rw [ht]; exact hP9, va_K.moved hW.alike hK, hD9⟩, hS.F ht⟩) hS.2.2 dX12_sheet_27
  rw [if_neg c_2] at hw
  refine k_topi (v := 0) hw ?_
  refine lv_if_eq (tgt := 25) hx₀ hb dX12_sheet_4 (by decide) (fun _ => ?_) (fun c9 => absurd (by decide +kernel) c9)
  refine lv_bipush (v := (-2)) hx₀ hb dX12_sheet_25 (by decide +kernel) ?_
  obtain ⟨hP9, hD9⟩ := k_c2 (wc := [(kX12 hm vFo vSi vIt vMo la vBy vTy mi vMi pn vPs gn vGs fn vFt le vTo kn fe en ca an co vPr vSt vFn sn vSg vAl dr), (kAI vFo cI 4 qFo), (kAI vSi cI 4 qSi), (kAI vIt cI 240 qIt)]) hP hD [0, 1, 2, 3] (by decide +kernel) rfl
  exact W.iret (v := (-2)) hx₀ hb hr (fun t₀ ht hW => ⟨⟨(-2), (k_fn [la], k_fa [qFo, qSi, qIt], k_fl [], k_fL [], k_fp []), rfl, ⟨(show ((-2) : Int32) = if 0 ≤ ss ∧ ss ≤ 3 ∧ 0 ≤ fm ∧ fm ≤ 2 ∧ nn ≤ 60 then (if nn < 0 then -15 else nn) else -2 from (if_neg (show ¬ (0 ≤ ss ∧ ss ≤ 3 ∧ 0 ≤ fm ∧ fm ≤ 2 ∧ nn ≤ 60) from (fun z => c_2 (And.intro z.1 z.2.1)))).symm), hh0, (if_neg (show ¬ (0 ≤ ss ∧ ss ≤ 3 ∧ 0 ≤ fm ∧ fm ≤ 2 ∧ nn ≤ 60 ∧ ¬ nn < 0) from (fun z => c_2 (And.intro z.1 z.2.1)))).symm, (if_neg (show ¬ (0 ≤ ss ∧ ss ≤ 3 ∧ 0 ≤ fm ∧ fm ≤ 2 ∧ nn ≤ 60 ∧ ¬ nn < 0) from (fun z => c_2 (And.intro z.1 z.2.1)))).symm, (kFd_ge (by decide)).symm, (if_neg (show ¬ (0 ≤ ss ∧ ss ≤ 3 ∧ 0 ≤ fm ∧ fm ≤ 2 ∧ nn ≤ 60 ∧ ¬ nn < 0) from (fun z => c_2 (And.intro z.1 z.2.1)))).symm⟩, by rw [ht]; exact hP9, va_K.moved hW.alike hK, hD9⟩, hS.F ht⟩) hS.2.2 dX12_sheet_27
theorem lf_g_lose_1 (a0 : Int32) (h0 : 0 ≤ a0.toInt ∧ a0.toInt ≤ 60) : ¬ a0 < -10 := by
  first | rfl | assumption | decide | exact Or.inl rfl | (first | rfl | assumption | decide | omega | (have hr0 := Int32.toInt_lt a0; have hs0 := Int32.le_toInt a0; simp only [Int64.toInt_add, Int64.toInt_sub, Int32.toInt_add, Int32.toInt_sub, Int32.toInt_mul, Int64.le_iff_toInt_le, Int64.lt_iff_toInt_lt, Int32.le_iff_toInt_le, Int32.lt_iff_toInt_lt, ← Int32.toInt_inj, ← Int64.toInt_inj, Int32.toInt_toInt64, kc_m10, kc_0, kc_10, kc_60, true_and, and_true, not_true_eq_false, not_false_eq_true] at * <;> ((first | omega | ((try simp (disch := omega) only [k_bm64] at *); (try simp (disch := omega) only [k_bm] at *); (try simp (disch := omega) only [k_bm] at *); omega) | (simp only [Int.bmod] at *; omega)))))
set_option maxHeartbeats 4000000 in
set_option maxRecDepth 100000 in
theorem g_lose (l : Launch) (dC : Nat → ClassId) (dI : Nat → Nat → Nat) (cI cJ cQ : ClassId) (sz : Nat) (hm : Nat) (ss : Int32) (vFo : Nat) (vSi : Nat) (vIt : Nat) (vMo : Nat) (la : Int32) (vBy : Nat) (vTy : Nat) (mi : Int32) (vMi : Nat) (pn : Int32) (vPs : Nat) (gn : Int32) (vGs : Nat) (fn : Int32) (vFt : Nat) (le : Int32) (vTo : Nat) (kn : Int32) (fe : Int32) (en : Int32) (ca : Int32) (an : Int32) (co : Int32) (vPr : Nat) (vSt : Nat) (vFn : Nat) (sn : Int32) (vSg : Nat) (vAl : Nat) (dr : Int32) (qFo : Nat → Int32) (qSi : Nat → Int32) (hh0 : k_bd 4 0 60 qSi) : Met l yX12_lose (kW yX12_lose cX12_lose 2 (some .int)) { frames := 2, cells := 0, slots := 0, locals := 45 } (kPre dC dI cI cJ cQ sz [.ref hm, .int ss] [(kX12 hm vFo vSi vIt vMo la vBy vTy mi vMi pn vPs gn vGs fn vFt le vTo kn fe en ca an co vPr vSt vFn sn vSg vAl dr), (kAI vFo cI 4 qFo), (kAI vSi cI 4 qSi)]) (va_Qi (fun (r : Int32) (u : kS) => (r = if 0 ≤ ss ∧ ss ≤ 3 then (if qFo ss.toNatClampNeg < 0 then -11 else qSi ss.toNatClampNeg) else -2) ∧ ((u.2.1 0) = if 0 ≤ ss ∧ ss ≤ 3 ∧ ¬ qFo ss.toNatClampNeg < 0 then upd qFo ss.toNatClampNeg (-1) else qFo) ∧ ((u.1 0) = kFd r la)) (fun (u : kS) t₀ => kB dC dI cI cJ cQ (va_A [(kX12 hm vFo vSi vIt vMo la vBy vTy mi vMi pn vPs gn vGs fn vFt le vTo kn fe en ca an co vPr vSt vFn sn vSg vAl dr), (kAI vFo cI 4 qFo), (kAI vSi cI 4 qSi)] sz) [(kX12 hm vFo vSi vIt vMo (u.1 0) vBy vTy mi vMi pn vPs gn vGs fn vFt le vTo kn fe en ca an co vPr vSt vFn sn vSg vAl dr), (kAI vFo cI 4 (u.2.1 0)), (kAI vSi cI 4 qSi)] t₀) (va_A [(kX12 hm vFo vSi vIt vMo la vBy vTy mi vMi pn vPs gn vGs fn vFt le vTo kn fe en ca an co vPr vSt vFn sn vSg vAl dr), (kAI vFo cI 4 qFo), (kAI vSi cI 4 qSi)] sz)) 0 0 (va_A [(kX12 hm vFo vSi vIt vMo la vBy vTy mi vMi pn vPs gn vGs fn vFt le vTo kn fe en ca an co vPr vSt vFn sn vSg vAl dr), (kAI vFo cI 4 qFo), (kAI vSi cI 4 qSi)] sz) := by
  refine Met.ofW (cc := cX12_lose) (maxL := 2) (ret := (some .int)) (by decide) rfl ?_
  intro p₀ e₀ s₀ m₀ args below meth c₀ s₁ B hml hv₀
  obtain ⟨rfl, hsz, hP, hK, hD0, hN⟩ := hv₀
  have hx₀ := B.exec
  have hb := B.bytes
  have hr := B.returns
  have hts := atoms_spec (ws := (kW yX12_lose cX12_lose 2 (some .int))) B.pre
  have hts := fun w h => hts w (List.mem_cons_of_mem _ h)
  have hown : s₀.vm.findClass RX12 = some m₀.cls := findClass_of_methodNamed B.named
  have hlocks := B.notSynchronized
  subst hsz
  have hD := hD0.self (sz := s₀.heap.size)
  generalize hAe : va_A [(kX12 hm vFo vSi vIt vMo la vBy vTy mi vMi pn vPs gn vGs fn vFt le vTo kn fe en ca an co vPr vSt vFn sn vSg vAl dr), (kAI vFo cI 4 qFo), (kAI vSi cI 4 qSi)] s₀.heap.size = A at hD ⊢
  have hA : ∀ q : Nat, s₀.heap.size ≤ q → A q := fun q h => by rw [← hAe]; exact Or.inr h
  have hS : va_S A s₀.heap s₀.heap [] := va_S.rf
  have hP : va_P (dC, dI) vwCl [(kX12 hm vFo vSi vIt vMo la vBy vTy mi vMi pn vPs gn vGs fn vFt le vTo kn fe en ca an co vPr vSt vFn sn vSg vAl dr), (kAI vFo cI 4 qFo), (kAI vSi cI 4 qSi)] s₀.heap := hP
  have hl := lv_entry ([.ref hm, .int ss]) (n := 2) (Nat.le_of_ble_eq_true rfl)
  rw [lg_entry_eq]
  generalize (lg_sl ([.ref hm, .int ss]) ++ List.replicate (2 - (lg_sl ([.ref hm, .int ss])).length) Slot.unset).toArray = ls at hl ⊢
  have hl : lv_has ls 2 [(0, .ref hm), (1, .int ss)] := hl
  obtain ⟨H, hH⟩ : ∃ z : Heap, z = s₀.heap := ⟨_, rfl⟩
  rw [← hH] at hP
  have hS : va_S A s₀.heap H [] := by rw [hH]; exact hS
  refine k_heap hH ?_
  have hD : va_D A [(kX12 hm vFo vSi vIt vMo la vBy vTy mi vMi pn vPs gn vGs fn vFt le vTo kn fe en ca an co vPr vSt vFn sn vSg vAl dr), (kAI vFo cI 4 qFo), (kAI vSi cI 4 qSi)] := hD
  obtain ⟨locs, hlo⟩ : ∃ z : List Loc, z = [] := ⟨_, rfl⟩
  rw [← hlo] at hS ⊢
  clear hlo hH hAe hD0
  refine lv_iload_n hx₀ hb dX12_lose_0 rfl (lv_at hl 1 rfl) ?_
  obtain ⟨hPc, hDc, hFc, hC⟩ := k_cw (wc := []) hP hD hS hA [] (by decide +kernel) rfl
  refine va_calli (va_runS (As := [.int ss]) (rest := []) ⟨hx₀, hb, hml, hown, hts⟩ (c_isSheet l dC dI cI cJ cQ H.size ss) (va_cwS 1 hts (kGS wd_400 wd_398 wd_399 wd_5) rfl rfl rfl (by decide +kernel) ⟨Nat.le_of_ble_eq_true rfl, Nat.le_of_ble_eq_true rfl⟩) (k_preS hK hPc hDc hN) rfl rfl hl.1 rfl (lv_room (Nat.le_of_ble_eq_true rfl)) dX12_lose_1 ⟨by decide +kernel, by decide +kernel⟩) hS (fun q _ h => hFc q h) hFc (fun r_1 u₀ t₀ H1 locs ht hvm hw hB hz1 hk1 hS => ?_)
  obtain ⟨hP1, hK1, hD1⟩ := hB
  rw [ht] at hP1
  have hJ := k_jn (wr := [(kX12 hm vFo vSi vIt vMo la vBy vTy mi vMi pn vPs gn vGs fn vFt le vTo kn fe en ca an co vPr vSt vFn sn vSg vAl dr), (kAI vFo cI 4 qFo), (kAI vSi cI 4 qSi)]) (wt := [(kX12 hm vFo vSi vIt vMo la vBy vTy mi vMi pn vPs gn vGs fn vFt le vTo kn fe en ca an co vPr vSt vFn sn vSg vAl dr), (kAI vFo cI 4 qFo), (kAI vSi cI 4 qSi)]) hP hD hC [0, 1, 2] rfl (by decide +kernel) (by decide +kernel) hk1 hFc hP1 hD1 rfl
  clear hP hD hPc hDc hFc hC hP1 hD1 hK1 hz1 hk1 hvm ht
  obtain ⟨hP, hD⟩ := hJ
  generalize H1 = H at hP hS ⊢
  try dsimp only at hw
  by_cases c_2 : 0 ≤ ss ∧ ss ≤ 3
  · rw [if_pos c_2] at hw
    refine k_topi (v := 1) hw ?_
    refine lv_if_ne (tgt := 10) hx₀ hb dX12_lose_4 (by decide) (fun _ => ?_) (fun c9 => absurd c9 (by decide +kernel))
    refine lv_aload_n hx₀ hb dX12_lose_10 rfl (lv_at hl 0 rfl) ?_
    refine va_get (D := (dC, dI)) (ci := 11) (v := .ref vFo) (C := RX12) (T := TX12) (N := 30) hx₀ hb hts inlX12 hown hK hP 0 rfl rfl 0 (by decide) (hts (.fieldLink RX12 7 "BittenStickModel" "forms" "[I") wd_115) (fun _ h9 => h9) rfl dX12_lose_11 ?_
    refine lv_iload_n hx₀ hb dX12_lose_14 rfl (lv_at hl 1 rfl) ?_
    refine va_iald hx₀ hb hK hP 1 0 rfl rfl (vp_in_iff.mpr (lf_g_sheet_1 ss c_2)) dX12_lose_15 ?_
    refine lv_topi (fun y_3 ey_3 => ?_)
    refine lv_if_ge (tgt := 25) hx₀ hb dX12_lose_16 (by decide) (fun c_4 => ?_) (fun c_4 => ?_)
    · refine lv_aload_n hx₀ hb dX12_lose_25 rfl (lv_at hl 0 rfl) ?_
      refine va_get (D := (dC, dI)) (ci := 11) (v := .ref vFo) (C := RX12) (T := TX12) (N := 30) hx₀ hb hts inlX12 hown hK hP 0 rfl rfl 0 (by decide) (hts (.fieldLink RX12 7 "BittenStickModel" "forms" "[I") wd_115) (fun _ h9 => h9) rfl dX12_lose_26 ?_
      refine lv_iload_n hx₀ hb dX12_lose_29 rfl (lv_at hl 1 rfl) ?_
      refine lv_iconst (v := (-1)) hx₀ hb dX12_lose_30 (by decide +kernel) ?_
      refine va_iast hx₀ hb hK hP hD hS 1 0 rfl rfl (vp_in_iff.mpr (lf_g_sheet_1 ss c_2)) dX12_lose_31 ?_
      clear hP hD hS
      intro H locs hP hD hS
      replace hP := k_w2 (wt := [(kX12 hm vFo vSi vIt vMo la vBy vTy mi vMi pn vPs gn vGs fn vFt le vTo kn fe en ca an co vPr vSt vFn sn vSg vAl dr), (kAI vFo cI 4 (upd qFo ss.toNatClampNeg (-1))), (kAI vSi cI 4 qSi)]) hP hD rfl
      replace hD := hP.2
      replace hP := hP.1
      refine lv_aload_n hx₀ hb dX12_lose_32 rfl (lv_at hl 0 rfl) ?_
      refine va_get (D := (dC, dI)) (ci := 11) (v := .ref vSi) (C := RX12) (T := TX12) (N := 30) hx₀ hb hts inlX12 hown hK hP 0 rfl rfl 1 (by decide) (hts (.fieldLink RX12 13 "BittenStickModel" "sizes" "[I") wd_116) (fun _ h9 => h9) rfl dX12_lose_33 ?_
      refine lv_iload_n hx₀ hb dX12_lose_36 rfl (lv_at hl 1 rfl) ?_
      refine va_iald hx₀ hb hK hP 2 0 rfl rfl (vp_in_iff.mpr (lf_g_sheet_1 ss c_2)) dX12_lose_37 ?_
      refine lv_topi (fun y_5 ey_5 => ?_)
      have c_6 : 0 ≤ y_5.toInt ∧ y_5.toInt ≤ 60 := by rw [ey_5]; exact k_bd_at hh0 (vp_in_iff.mpr (lf_g_sheet_1 ss c_2))
      obtain ⟨hP9, hD9⟩ := k_c2 (wc := [(kX12 hm vFo vSi vIt vMo la vBy vTy mi vMi pn vPs gn vGs fn vFt le vTo kn fe en ca an co vPr vSt vFn sn vSg vAl dr), (kAI vFo cI 4 (upd qFo ss.toNatClampNeg (-1))), (kAI vSi cI 4 qSi)]) hP hD [0, 1, 2] (by decide +kernel) rfl
      exact W.iret (v := y_5) hx₀ hb hr (fun t₀ ht hW => ⟨⟨y_5, (k_fn [la], k_fa [upd qFo ss.toNatClampNeg (-1)], k_fl [], k_fL [], k_fp []), rfl, ⟨(by rewrite [← ey_3, ← ey_5]; exact (((if_neg (show ¬ (y_3 < 0) from (Int32.not_lt.mpr c_4))).symm).trans (if_pos (show 0 ≤ ss ∧ ss ≤ 3 from ⟨c_2.1, c_2.2⟩)).symm)), (if_pos (by rewrite [← ey_3]; exact ⟨c_2.1, c_2.2, (Int32.not_lt.mpr c_4)⟩)).symm, (kFd_ge (lf_g_lose_1 y_5 c_6)).symm⟩, by rw [ht]; exact hP9, va_K.moved hW.alike hK, hD9⟩, hS.F ht⟩) hS.2.2 dX12_lose_38
    · refine lv_aload_n hx₀ hb dX12_lose_19 rfl (lv_at hl 0 rfl) ?_
      refine lv_iconst (v := 1) hx₀ hb dX12_lose_20 (by decide +kernel) ?_
      obtain ⟨hPc, hDc, hFc, hC⟩ := k_cw (wc := [(kX12 hm vFo vSi vIt vMo la vBy vTy mi vMi pn vPs gn vGs fn vFt le vTo kn fe en ca an co vPr vSt vFn sn vSg vAl dr)]) hP hD hS hA [0] (by decide +kernel) rfl
      refine va_calli (va_runV (As := [.int 1]) (rest := []) ⟨hx₀, hb, hml, hown, hts⟩ (g_finds1 l dC dI cI cJ cQ H.size hm vFo vSi vIt vMo la vBy vTy mi vMi pn vPs gn vGs fn vFt le vTo kn fe en ca an co vPr vSt vFn sn vSg vAl dr) (cwV 1 hts (kGV wd_404 wd_401 wd_402 wd_403 wd_5) rfl rfl rfl (by decide +kernel) ⟨Nat.le_of_ble_eq_true rfl, Nat.le_of_ble_eq_true rfl⟩) (k_preV11 (q0 := 0) hK hPc hDc hN rfl) rfl rfl hl.1 rfl (lv_room (Nat.le_of_ble_eq_true rfl)) dX12_lose_21 ⟨by decide +kernel, by decide +kernel⟩) hS (fun q _ h => hFc q h) hFc (fun r_7 u₀ t₀ H1 locs ht hvm hw hB hz1 hk1 hS => ?_)
      obtain ⟨hP1, hK1, hD1⟩ := hB
      rw [ht] at hP1
      have hJ := k_jn (wr := [(kAI vFo cI 4 qFo), (kAI vSi cI 4 qSi)]) (wt := [(kAI vFo cI 4 qFo), (kAI vSi cI 4 qSi), (kX12 hm vFo vSi vIt vMo 1 vBy vTy mi vMi pn vPs gn vGs fn vFt le vTo kn fe en ca an co vPr vSt vFn sn vSg vAl dr)]) hP hD hC [1, 2] rfl (by decide +kernel) (by decide +kernel) hk1 hFc hP1 hD1 rfl
      clear hP hD hPc hDc hFc hC hP1 hD1 hK1 hz1 hk1 hvm ht
      obtain ⟨hP, hD⟩ := hJ
      generalize H1 = H at hP hS ⊢
      try dsimp only at hw
      refine k_topi (v := (-11)) hw ?_
      obtain ⟨hP9, hD9⟩ := k_c2 (wc := [(kX12 hm vFo vSi vIt vMo 1 vBy vTy mi vMi pn vPs gn vGs fn vFt le vTo kn fe en ca an co vPr vSt vFn sn vSg vAl dr), (kAI vFo cI 4 qFo), (kAI vSi cI 4 qSi)]) hP hD [2, 0, 1] (by decide +kernel) rfl
      exact W.iret (v := (-11)) hx₀ hb hr (fun t₀ ht hW => ⟨⟨(-11), (k_fn [(1 : Int32)], k_fa [qFo], k_fl [], k_fL [], k_fp []), rfl, ⟨(by rewrite [← ey_3]; exact (((if_pos (show y_3 < 0 from (Int32.not_le.mp c_4))).symm).trans (if_pos (show 0 ≤ ss ∧ ss ≤ 3 from ⟨c_2.1, c_2.2⟩)).symm)), (if_neg (by rewrite [← ey_3]; exact (fun z => (fun z => z (Int32.not_le.mp c_4)) z.2.2))).symm, kFd_11.symm⟩, by rw [ht]; exact hP9, va_K.moved hW.alike hK, hD9⟩, hS.F ht⟩) hS.2.2 dX12_lose_24
  rw [if_neg c_2] at hw
  refine k_topi (v := 0) hw ?_
  refine lv_if_ne (tgt := 10) hx₀ hb dX12_lose_4 (by decide) (fun c9 => absurd (by decide +kernel) c9) (fun _ => ?_)
  refine lv_bipush (v := (-2)) hx₀ hb dX12_lose_7 (by decide +kernel) ?_
  obtain ⟨hP9, hD9⟩ := k_c2 (wc := [(kX12 hm vFo vSi vIt vMo la vBy vTy mi vMi pn vPs gn vGs fn vFt le vTo kn fe en ca an co vPr vSt vFn sn vSg vAl dr), (kAI vFo cI 4 qFo), (kAI vSi cI 4 qSi)]) hP hD [0, 1, 2] (by decide +kernel) rfl
  exact W.iret (v := (-2)) hx₀ hb hr (fun t₀ ht hW => ⟨⟨(-2), (k_fn [la], k_fa [qFo], k_fl [], k_fL [], k_fp []), rfl, ⟨(show ((-2) : Int32) = if 0 ≤ ss ∧ ss ≤ 3 then (if qFo ss.toNatClampNeg < 0 then -11 else qSi ss.toNatClampNeg) else -2 from (if_neg (c_2)).symm), (if_neg (show ¬ (0 ≤ ss ∧ ss ≤ 3 ∧ ¬ qFo ss.toNatClampNeg < 0) from (fun z => c_2 (And.intro z.1 z.2.1)))).symm, (kFd_ge (by decide)).symm⟩, by rw [ht]; exact hP9, va_K.moved hW.alike hK, hD9⟩, hS.F ht⟩) hS.2.2 dX12_lose_9
theorem lf_g_lacks_1 (a0 : Int32) (a1 : Int32) (h0 : 0 ≤ a0.toInt ∧ a0.toInt ≤ 60) (h1 : (0 : Int64) ≤ a1.toInt64 ∧ a1.toInt64 ≤ ((a0 - 1).toInt64)) : 0 ≤ a1 := by
  first | rfl | assumption | decide | exact Or.inl rfl | (first | rfl | assumption | decide | omega | (have hr0 := Int32.toInt_lt a0; have hs0 := Int32.le_toInt a0; have hr1 := Int32.toInt_lt a1; have hs1 := Int32.le_toInt a1; simp only [Int64.toInt_add, Int64.toInt_sub, Int32.toInt_add, Int32.toInt_sub, Int32.toInt_mul, Int64.le_iff_toInt_le, Int64.lt_iff_toInt_lt, Int32.le_iff_toInt_le, Int32.lt_iff_toInt_lt, ← Int32.toInt_inj, ← Int64.toInt_inj, Int32.toInt_toInt64, kc_0, kd_0, kc_1, kd_1, kc_60, kd_60, true_and, and_true, not_true_eq_false, not_false_eq_true] at * <;> ((first | omega | ((try simp (disch := omega) only [k_bm64] at *); (try simp (disch := omega) only [k_bm] at *); (try simp (disch := omega) only [k_bm] at *); omega) | (simp only [Int.bmod] at *; omega)))))
theorem lf_g_lacks_2 (a0 : Int32) (a1 : Int32) (h0 : 0 ≤ a0.toInt ∧ a0.toInt ≤ 60) (h1 : (0 : Int64) ≤ a1.toInt64 ∧ a1.toInt64 ≤ ((a0 - 1).toInt64)) : a1 < a0 := by
  first | rfl | assumption | decide | exact Or.inl rfl | (first | rfl | assumption | decide | omega | (have hr0 := Int32.toInt_lt a0; have hs0 := Int32.le_toInt a0; have hr1 := Int32.toInt_lt a1; have hs1 := Int32.le_toInt a1; simp only [Int64.toInt_add, Int64.toInt_sub, Int32.toInt_add, Int32.toInt_sub, Int32.toInt_mul, Int64.le_iff_toInt_le, Int64.lt_iff_toInt_lt, Int32.le_iff_toInt_le, Int32.lt_iff_toInt_lt, ← Int32.toInt_inj, ← Int64.toInt_inj, Int32.toInt_toInt64, kc_0, kd_0, kc_1, kd_1, kc_60, kd_60, true_and, and_true, not_true_eq_false, not_false_eq_true] at * <;> ((first | omega | ((try simp (disch := omega) only [k_bm64] at *); (try simp (disch := omega) only [k_bm] at *); (try simp (disch := omega) only [k_bm] at *); omega) | (simp only [Int.bmod] at *; omega)))))
theorem lf_g_lacks_3 (a0 : Int32) (a1 : Int32) (h0 : 0 ≤ a0.toInt ∧ a0.toInt ≤ 60) (h1 : (0 : Int64) ≤ a1.toInt64 ∧ a1.toInt64 ≤ ((a0 - 1).toInt64)) : ¬ (0 : Int32) = 0 ∨ (0 ≤ a1 ∧ a1 < 60) := by
  first | rfl | assumption | decide | exact Or.inl rfl | (first | rfl | assumption | decide | omega | (have hr0 := Int32.toInt_lt a0; have hs0 := Int32.le_toInt a0; have hr1 := Int32.toInt_lt a1; have hs1 := Int32.le_toInt a1; simp only [Int64.toInt_add, Int64.toInt_sub, Int32.toInt_add, Int32.toInt_sub, Int32.toInt_mul, Int64.le_iff_toInt_le, Int64.lt_iff_toInt_lt, Int32.le_iff_toInt_le, Int32.lt_iff_toInt_lt, ← Int32.toInt_inj, ← Int64.toInt_inj, Int32.toInt_toInt64, kc_0, kd_0, kc_1, kd_1, kc_60, kd_60, true_and, and_true, not_true_eq_false, not_false_eq_true] at * <;> ((first | omega | ((try simp (disch := omega) only [k_bm64] at *); (try simp (disch := omega) only [k_bm] at *); (try simp (disch := omega) only [k_bm] at *); omega) | (simp only [Int.bmod] at *; omega)))))
theorem lf_g_lacks_4 (a0 : Int32) (a1 : Int32) (a2 : Int32) (a3 : Int32) (h0 : 0 ≤ a0) (h1 : a0 = a1) (h2 : 0 ≤ a2.toInt ∧ a2.toInt ≤ 60) (h3 : ¬ ((0 : Int64) ≤ a3.toInt64 ∧ a3.toInt64 ≤ ((a2 - 1).toInt64))) : ¬ (¬ a0 < 0 ∧ a0 = a1 ∧ 0 ≤ a3 ∧ a3 < a2) := by
  first | rfl | assumption | decide | exact Or.inl rfl | (first | rfl | assumption | decide | omega | (have hr0 := Int32.toInt_lt a0; have hs0 := Int32.le_toInt a0; have hr1 := Int32.toInt_lt a1; have hs1 := Int32.le_toInt a1; have hr2 := Int32.toInt_lt a2; have hs2 := Int32.le_toInt a2; have hr3 := Int32.toInt_lt a3; have hs3 := Int32.le_toInt a3; simp only [Int64.toInt_add, Int64.toInt_sub, Int32.toInt_add, Int32.toInt_sub, Int32.toInt_mul, Int64.le_iff_toInt_le, Int64.lt_iff_toInt_lt, Int32.le_iff_toInt_le, Int32.lt_iff_toInt_lt, ← Int32.toInt_inj, ← Int64.toInt_inj, Int32.toInt_toInt64, kc_0, kd_0, kc_1, kd_1, kc_60, kd_60, true_and, and_true, not_true_eq_false, not_false_eq_true] at * <;> ((first | omega | ((try simp (disch := omega) only [k_bm64] at *); (try simp (disch := omega) only [k_bm] at *); (try simp (disch := omega) only [k_bm] at *); omega) | (simp only [Int.bmod] at *; omega)))))
theorem lf_g_lacks_5 (a0 : Int32) (a1 : Int32) (h0 : 0 ≤ a0.toInt ∧ a0.toInt ≤ 60) (h1 : ¬ ((0 : Int64) ≤ a1.toInt64 ∧ a1.toInt64 ≤ ((a0 - 1).toInt64))) : ¬ ((-12) : Int32) = 0 ∨ (0 ≤ a1 ∧ a1 < 60) := by
  first | rfl | assumption | decide | exact Or.inl rfl | (first | rfl | assumption | decide | omega | (have hr0 := Int32.toInt_lt a0; have hs0 := Int32.le_toInt a0; have hr1 := Int32.toInt_lt a1; have hs1 := Int32.le_toInt a1; simp only [Int64.toInt_add, Int64.toInt_sub, Int32.toInt_add, Int32.toInt_sub, Int32.toInt_mul, Int64.le_iff_toInt_le, Int64.lt_iff_toInt_lt, Int32.le_iff_toInt_le, Int32.lt_iff_toInt_lt, ← Int32.toInt_inj, ← Int64.toInt_inj, Int32.toInt_toInt64, kc_m12, kd_m12, kc_0, kd_0, kc_1, kd_1, kc_12, kd_12, kc_60, kd_60, true_and, and_true, not_true_eq_false, not_false_eq_true] at * <;> ((first | omega | ((try simp (disch := omega) only [k_bm64] at *); (try simp (disch := omega) only [k_bm] at *); (try simp (disch := omega) only [k_bm] at *); omega) | (simp only [Int.bmod] at *; omega)))))
theorem lf_g_lacks_6 (a0 : Int32)  : ¬ ((-13) : Int32) = 0 ∨ (0 ≤ a0 ∧ a0 < 60) := by
  first | rfl | assumption | decide | exact Or.inl rfl | (first | rfl | assumption | decide | omega | (have hr0 := Int32.toInt_lt a0; have hs0 := Int32.le_toInt a0; simp only [Int64.toInt_add, Int64.toInt_sub, Int32.toInt_add, Int32.toInt_sub, Int32.toInt_mul, Int64.le_iff_toInt_le, Int64.lt_iff_toInt_lt, Int32.le_iff_toInt_le, Int32.lt_iff_toInt_lt, ← Int32.toInt_inj, ← Int64.toInt_inj, Int32.toInt_toInt64, kc_m13, kc_0, kc_13, kc_60, true_and, and_true, not_true_eq_false, not_false_eq_true] at * <;> ((first | omega | ((try simp (disch := omega) only [k_bm64] at *); (try simp (disch := omega) only [k_bm] at *); (try simp (disch := omega) only [k_bm] at *); omega) | (simp only [Int.bmod] at *; omega)))))
theorem lf_g_lacks_7 (a0 : Int32)  : ¬ ((-11) : Int32) = 0 ∨ (0 ≤ a0 ∧ a0 < 60) := by
  first | rfl | assumption | decide | exact Or.inl rfl | (first | rfl | assumption | decide | omega | (have hr0 := Int32.toInt_lt a0; have hs0 := Int32.le_toInt a0; simp only [Int64.toInt_add, Int64.toInt_sub, Int32.toInt_add, Int32.toInt_sub, Int32.toInt_mul, Int64.le_iff_toInt_le, Int64.lt_iff_toInt_lt, Int32.le_iff_toInt_le, Int32.lt_iff_toInt_lt, ← Int32.toInt_inj, ← Int64.toInt_inj, Int32.toInt_toInt64, kc_m11, kc_0, kc_11, kc_60, true_and, and_true, not_true_eq_false, not_false_eq_true] at * <;> ((first | omega | ((try simp (disch := omega) only [k_bm64] at *); (try simp (disch := omega) only [k_bm] at *); (try simp (disch := omega) only [k_bm] at *); omega) | (simp only [Int.bmod] at *; omega)))))
set_option maxHeartbeats 4000000 in
set_option maxRecDepth 100000 in
theorem g_lacks (l : Launch) (dC : Nat → ClassId) (dI : Nat → Nat → Nat) (cI cJ cQ : ClassId) (sz : Nat) (hm : Nat) (ss : Int32) (fm : Int32) (i1 : Int32) (vFo : Nat) (vSi : Nat) (vIt : Nat) (vMo : Nat) (la : Int32) (vBy : Nat) (vTy : Nat) (mi : Int32) (vMi : Nat) (pn : Int32) (vPs : Nat) (gn : Int32) (vGs : Nat) (fn : Int32) (vFt : Nat) (le : Int32) (vTo : Nat) (kn : Int32) (fe : Int32) (en : Int32) (ca : Int32) (an : Int32) (co : Int32) (vPr : Nat) (vSt : Nat) (vFn : Nat) (sn : Int32) (vSg : Nat) (vAl : Nat) (dr : Int32) (qFo : Nat → Int32) (qSi : Nat → Int32) (hh0 : 0 ≤ ss ∧ ss ≤ 3) (hh1 : k_bd 4 0 60 qSi) : Met l yX12_lacks (kW yX12_lacks cX12_lacks 4 (some .int)) { frames := 1, cells := 0, slots := 0, locals := 25 } (kPre dC dI cI cJ cQ sz [.ref hm, .int ss, .int fm, .int i1] [(kX12 hm vFo vSi vIt vMo la vBy vTy mi vMi pn vPs gn vGs fn vFt le vTo kn fe en ca an co vPr vSt vFn sn vSg vAl dr), (kAI vFo cI 4 qFo), (kAI vSi cI 4 qSi)]) (va_Qi (fun (r : Int32) (u : kS) => (r = if ¬ qFo ss.toNatClampNeg < 0 ∧ qFo ss.toNatClampNeg = fm ∧ 0 ≤ i1 ∧ i1 < qSi ss.toNatClampNeg then 0 else if ¬ qFo ss.toNatClampNeg < 0 ∧ qFo ss.toNatClampNeg = fm then -12 else if ¬ qFo ss.toNatClampNeg < 0 then -13 else -11) ∧ (¬ r = 0 ∨ (0 ≤ i1 ∧ i1 < 60)) ∧ ((u.1 0) = kFd r la)) (fun (u : kS) t₀ => kB dC dI cI cJ cQ (va_A [(kX12 hm vFo vSi vIt vMo la vBy vTy mi vMi pn vPs gn vGs fn vFt le vTo kn fe en ca an co vPr vSt vFn sn vSg vAl dr), (kAI vFo cI 4 qFo), (kAI vSi cI 4 qSi)] sz) [(kX12 hm vFo vSi vIt vMo (u.1 0) vBy vTy mi vMi pn vPs gn vGs fn vFt le vTo kn fe en ca an co vPr vSt vFn sn vSg vAl dr), (kAI vFo cI 4 qFo), (kAI vSi cI 4 qSi)] t₀) (va_A [(kX12 hm vFo vSi vIt vMo la vBy vTy mi vMi pn vPs gn vGs fn vFt le vTo kn fe en ca an co vPr vSt vFn sn vSg vAl dr), (kAI vFo cI 4 qFo), (kAI vSi cI 4 qSi)] sz)) 0 0 (va_A [(kX12 hm vFo vSi vIt vMo la vBy vTy mi vMi pn vPs gn vGs fn vFt le vTo kn fe en ca an co vPr vSt vFn sn vSg vAl dr), (kAI vFo cI 4 qFo), (kAI vSi cI 4 qSi)] sz) := by
  refine Met.ofW (cc := cX12_lacks) (maxL := 4) (ret := (some .int)) (by decide) rfl ?_
  intro p₀ e₀ s₀ m₀ args below meth c₀ s₁ B hml hv₀
  obtain ⟨rfl, hsz, hP, hK, hD0, hN⟩ := hv₀
  have hx₀ := B.exec
  have hb := B.bytes
  have hr := B.returns
  have hts := atoms_spec (ws := (kW yX12_lacks cX12_lacks 4 (some .int))) B.pre
  have hts := fun w h => hts w (List.mem_cons_of_mem _ h)
  have hown : s₀.vm.findClass RX12 = some m₀.cls := findClass_of_methodNamed B.named
  have hlocks := B.notSynchronized
  subst hsz
  have hD := hD0.self (sz := s₀.heap.size)
  generalize hAe : va_A [(kX12 hm vFo vSi vIt vMo la vBy vTy mi vMi pn vPs gn vGs fn vFt le vTo kn fe en ca an co vPr vSt vFn sn vSg vAl dr), (kAI vFo cI 4 qFo), (kAI vSi cI 4 qSi)] s₀.heap.size = A at hD ⊢
  have hA : ∀ q : Nat, s₀.heap.size ≤ q → A q := fun q h => by rw [← hAe]; exact Or.inr h
  have hS : va_S A s₀.heap s₀.heap [] := va_S.rf
  have hP : va_P (dC, dI) vwCl [(kX12 hm vFo vSi vIt vMo la vBy vTy mi vMi pn vPs gn vGs fn vFt le vTo kn fe en ca an co vPr vSt vFn sn vSg vAl dr), (kAI vFo cI 4 qFo), (kAI vSi cI 4 qSi)] s₀.heap := hP
  have hl := lv_entry ([.ref hm, .int ss, .int fm, .int i1]) (n := 4) (Nat.le_of_ble_eq_true rfl)
  rw [lg_entry_eq]
  generalize (lg_sl ([.ref hm, .int ss, .int fm, .int i1]) ++ List.replicate (4 - (lg_sl ([.ref hm, .int ss, .int fm, .int i1])).length) Slot.unset).toArray = ls at hl ⊢
  have hl : lv_has ls 4 [(0, .ref hm), (1, .int ss), (2, .int fm), (3, .int i1)] := hl
  obtain ⟨H, hH⟩ : ∃ z : Heap, z = s₀.heap := ⟨_, rfl⟩
  rw [← hH] at hP
  have hS : va_S A s₀.heap H [] := by rw [hH]; exact hS
  refine k_heap hH ?_
  have hD : va_D A [(kX12 hm vFo vSi vIt vMo la vBy vTy mi vMi pn vPs gn vGs fn vFt le vTo kn fe en ca an co vPr vSt vFn sn vSg vAl dr), (kAI vFo cI 4 qFo), (kAI vSi cI 4 qSi)] := hD
  obtain ⟨locs, hlo⟩ : ∃ z : List Loc, z = [] := ⟨_, rfl⟩
  rw [← hlo] at hS ⊢
  clear hlo hH hAe hD0
  refine lv_aload_n hx₀ hb dX12_lacks_0 rfl (lv_at hl 0 rfl) ?_
  refine va_get (D := (dC, dI)) (ci := 11) (v := .ref vFo) (C := RX12) (T := TX12) (N := 30) hx₀ hb hts inlX12 hown hK hP 0 rfl rfl 0 (by decide) (hts (.fieldLink RX12 7 "BittenStickModel" "forms" "[I") wd_115) (fun _ h9 => h9) rfl dX12_lacks_1 ?_
  refine lv_iload_n hx₀ hb dX12_lacks_4 rfl (lv_at hl 1 rfl) ?_
  refine va_iald hx₀ hb hK hP 1 0 rfl rfl (vp_in_iff.mpr (lf_g_sheet_1 ss hh0)) dX12_lacks_5 ?_
  refine lv_topi (fun y_1 ey_1 => ?_)
  refine lv_if_ge (tgt := 15) hx₀ hb dX12_lacks_6 (by decide) (fun c_2 => ?_) (fun c_2 => ?_)
  · refine lv_aload_n hx₀ hb dX12_lacks_15 rfl (lv_at hl 0 rfl) ?_
    refine va_get (D := (dC, dI)) (ci := 11) (v := .ref vFo) (C := RX12) (T := TX12) (N := 30) hx₀ hb hts inlX12 hown hK hP 0 rfl rfl 0 (by decide) (hts (.fieldLink RX12 7 "BittenStickModel" "forms" "[I") wd_115) (fun _ h9 => h9) rfl dX12_lacks_16 ?_
    refine lv_iload_n hx₀ hb dX12_lacks_19 rfl (lv_at hl 1 rfl) ?_
    refine va_iald hx₀ hb hK hP 1 0 rfl rfl (vp_in_iff.mpr (lf_g_sheet_1 ss hh0)) dX12_lacks_20 ?_
    refine k_topi (v := y_1) ey_1.symm ?_
    refine lv_iload_n hx₀ hb dX12_lacks_21 rfl (lv_at hl 2 rfl) ?_
    refine lv_icmp_eq (tgt := 31) hx₀ hb dX12_lacks_22 (by decide) (fun c_3 => ?_) (fun c_3 => ?_)
    · refine lv_iload_n hx₀ hb dX12_lacks_31 rfl (lv_at hl 3 rfl) ?_
      refine lv_i2l hx₀ hb dX12_lacks_32 rfl ?_
      refine lv_lconst (v := 0) hx₀ hb dX12_lacks_33 (by decide +kernel) ?_
      refine lv_aload_n hx₀ hb dX12_lacks_34 rfl (lv_at hl 0 rfl) ?_
      refine va_get (D := (dC, dI)) (ci := 11) (v := .ref vSi) (C := RX12) (T := TX12) (N := 30) hx₀ hb hts inlX12 hown hK hP 0 rfl rfl 1 (by decide) (hts (.fieldLink RX12 13 "BittenStickModel" "sizes" "[I") wd_116) (fun _ h9 => h9) rfl dX12_lacks_35 ?_
      refine lv_iload_n hx₀ hb dX12_lacks_38 rfl (lv_at hl 1 rfl) ?_
      refine va_iald hx₀ hb hK hP 2 0 rfl rfl (vp_in_iff.mpr (lf_g_sheet_1 ss hh0)) dX12_lacks_39 ?_
      refine lv_topi (fun y_4 ey_4 => ?_)
      have c_5 : 0 ≤ y_4.toInt ∧ y_4.toInt ≤ 60 := by rw [ey_4]; exact k_bd_at hh1 (vp_in_iff.mpr (lf_g_sheet_1 ss hh0))
      refine lv_iconst (v := 1) hx₀ hb dX12_lacks_40 (by decide +kernel) ?_
      refine lv_isub hx₀ hb dX12_lacks_41 ?_
      refine lv_i2l hx₀ hb dX12_lacks_42 rfl ?_
      obtain ⟨hPc, hDc, hFc, hC⟩ := k_cw (wc := []) hP hD hS hA [] (by decide +kernel) rfl
      refine va_calli (va_runS (As := [.long i1.toInt64, .long 0, .long ((y_4 - 1).toInt64)]) (rest := []) ⟨hx₀, hb, hml, hown, hts⟩ (c_in l dC dI cI cJ cQ H.size i1.toInt64 0 ((y_4 - 1).toInt64)) (va_cwS 3 hts (kGS wd_208 wd_206 wd_207 wd_5) rfl rfl rfl (by decide +kernel) ⟨Nat.le_of_ble_eq_true rfl, Nat.le_of_ble_eq_true rfl⟩) (k_preS hK hPc hDc hN) rfl rfl hl.1 rfl (lv_room (Nat.le_of_ble_eq_true rfl)) dX12_lacks_43 ⟨by decide +kernel, by decide +kernel⟩) hS (fun q _ h => hFc q h) hFc (fun r_6 u₀ t₀ H1 locs ht hvm hw hB hz1 hk1 hS => ?_)
      obtain ⟨hP1, hK1, hD1⟩ := hB
      rw [ht] at hP1
      have hJ := k_jn (wr := [(kX12 hm vFo vSi vIt vMo la vBy vTy mi vMi pn vPs gn vGs fn vFt le vTo kn fe en ca an co vPr vSt vFn sn vSg vAl dr), (kAI vFo cI 4 qFo), (kAI vSi cI 4 qSi)]) (wt := [(kX12 hm vFo vSi vIt vMo la vBy vTy mi vMi pn vPs gn vGs fn vFt le vTo kn fe en ca an co vPr vSt vFn sn vSg vAl dr), (kAI vFo cI 4 qFo), (kAI vSi cI 4 qSi)]) hP hD hC [0, 1, 2] rfl (by decide +kernel) (by decide +kernel) hk1 hFc hP1 hD1 rfl
      clear hP hD hPc hDc hFc hC hP1 hD1 hK1 hz1 hk1 hvm ht
      obtain ⟨hP, hD⟩ := hJ
      generalize H1 = H at hP hS ⊢
      try dsimp only at hw
      by_cases c_7 : (0 : Int64) ≤ i1.toInt64 ∧ i1.toInt64 ≤ ((y_4 - 1).toInt64)
      · rw [if_pos c_7] at hw
        refine k_topi (v := 1) hw ?_
        refine lv_if_eq (tgt := 53) hx₀ hb dX12_lacks_46 (by decide) (fun c9 => absurd c9 (by decide +kernel)) (fun _ => ?_)
        refine lv_iconst (v := 0) hx₀ hb dX12_lacks_49 (by decide +kernel) ?_
        refine lv_goto (tgt := 58) hx₀ hb dX12_lacks_50 (by decide) ?_
        obtain ⟨hP9, hD9⟩ := k_c2 (wc := [(kX12 hm vFo vSi vIt vMo la vBy vTy mi vMi pn vPs gn vGs fn vFt le vTo kn fe en ca an co vPr vSt vFn sn vSg vAl dr), (kAI vFo cI 4 qFo), (kAI vSi cI 4 qSi)]) hP hD [0, 1, 2] (by decide +kernel) rfl
        exact W.iret (v := 0) hx₀ hb hr (fun t₀ ht hW => ⟨⟨0, (k_fn [la], k_fa [], k_fl [], k_fL [], k_fp []), rfl, ⟨(by rewrite [← ey_1, ← ey_4]; exact (if_pos (show ¬ y_1 < 0 ∧ y_1 = fm ∧ 0 ≤ i1 ∧ i1 < y_4 from ⟨(Int32.not_lt.mpr c_2), c_3, (lf_g_lacks_1 y_4 i1 c_5 c_7), (lf_g_lacks_2 y_4 i1 c_5 c_7)⟩)).symm), (lf_g_lacks_3 y_4 i1 c_5 c_7), (kFd_ge (by decide)).symm⟩, by rw [ht]; exact hP9, va_K.moved hW.alike hK, hD9⟩, hS.F ht⟩) hS.2.2 dX12_lacks_58
      rw [if_neg c_7] at hw
      refine k_topi (v := 0) hw ?_
      refine lv_if_eq (tgt := 53) hx₀ hb dX12_lacks_46 (by decide) (fun _ => ?_) (fun c9 => absurd (by decide +kernel) c9)
      refine lv_aload_n hx₀ hb dX12_lacks_53 rfl (lv_at hl 0 rfl) ?_
      refine lv_iconst (v := 2) hx₀ hb dX12_lacks_54 (by decide +kernel) ?_
      obtain ⟨hPc, hDc, hFc, hC⟩ := k_cw (wc := [(kX12 hm vFo vSi vIt vMo la vBy vTy mi vMi pn vPs gn vGs fn vFt le vTo kn fe en ca an co vPr vSt vFn sn vSg vAl dr)]) hP hD hS hA [0] (by decide +kernel) rfl
      refine va_calli (va_runV (As := [.int 2]) (rest := []) ⟨hx₀, hb, hml, hown, hts⟩ (g_finds2 l dC dI cI cJ cQ H.size hm vFo vSi vIt vMo la vBy vTy mi vMi pn vPs gn vGs fn vFt le vTo kn fe en ca an co vPr vSt vFn sn vSg vAl dr) (cwV 1 hts (kGV wd_404 wd_401 wd_402 wd_403 wd_5) rfl rfl rfl (by decide +kernel) ⟨Nat.le_of_ble_eq_true rfl, Nat.le_of_ble_eq_true rfl⟩) (k_preV11 (q0 := 0) hK hPc hDc hN rfl) rfl rfl hl.1 rfl (lv_room (Nat.le_of_ble_eq_true rfl)) dX12_lacks_55 ⟨by decide +kernel, by decide +kernel⟩) hS (fun q _ h => hFc q h) hFc (fun r_8 u₀ t₀ H1 locs ht hvm hw hB hz1 hk1 hS => ?_)
      obtain ⟨hP1, hK1, hD1⟩ := hB
      rw [ht] at hP1
      have hJ := k_jn (wr := [(kAI vFo cI 4 qFo), (kAI vSi cI 4 qSi)]) (wt := [(kAI vFo cI 4 qFo), (kAI vSi cI 4 qSi), (kX12 hm vFo vSi vIt vMo 2 vBy vTy mi vMi pn vPs gn vGs fn vFt le vTo kn fe en ca an co vPr vSt vFn sn vSg vAl dr)]) hP hD hC [1, 2] rfl (by decide +kernel) (by decide +kernel) hk1 hFc hP1 hD1 rfl
      clear hP hD hPc hDc hFc hC hP1 hD1 hK1 hz1 hk1 hvm ht
      obtain ⟨hP, hD⟩ := hJ
      generalize H1 = H at hP hS ⊢
      try dsimp only at hw
      refine k_topi (v := (-12)) hw ?_
      obtain ⟨hP9, hD9⟩ := k_c2 (wc := [(kX12 hm vFo vSi vIt vMo 2 vBy vTy mi vMi pn vPs gn vGs fn vFt le vTo kn fe en ca an co vPr vSt vFn sn vSg vAl dr), (kAI vFo cI 4 qFo), (kAI vSi cI 4 qSi)]) hP hD [2, 0, 1] (by decide +kernel) rfl
      exact W.iret (v := (-12)) hx₀ hb hr (fun t₀ ht hW => ⟨⟨(-12), (k_fn [(2 : Int32)], k_fa [], k_fl [], k_fL [], k_fp []), rfl, ⟨(by rewrite [← ey_1, ← ey_4]; exact (((if_pos (show ¬ y_1 < 0 ∧ y_1 = fm from ⟨(Int32.not_lt.mpr c_2), c_3⟩)).symm).trans (if_neg (lf_g_lacks_4 y_1 fm y_4 i1 c_2 c_3 c_5 c_7)).symm)), (lf_g_lacks_5 y_4 i1 c_5 c_7), kFd_12.symm⟩, by rw [ht]; exact hP9, va_K.moved hW.alike hK, hD9⟩, hS.F ht⟩) hS.2.2 dX12_lacks_58
    · refine lv_aload_n hx₀ hb dX12_lacks_25 rfl (lv_at hl 0 rfl) ?_
      refine lv_iconst (v := 3) hx₀ hb dX12_lacks_26 (by decide +kernel) ?_
      obtain ⟨hPc, hDc, hFc, hC⟩ := k_cw (wc := [(kX12 hm vFo vSi vIt vMo la vBy vTy mi vMi pn vPs gn vGs fn vFt le vTo kn fe en ca an co vPr vSt vFn sn vSg vAl dr)]) hP hD hS hA [0] (by decide +kernel) rfl
      refine va_calli (va_runV (As := [.int 3]) (rest := []) ⟨hx₀, hb, hml, hown, hts⟩ (g_finds3 l dC dI cI cJ cQ H.size hm vFo vSi vIt vMo la vBy vTy mi vMi pn vPs gn vGs fn vFt le vTo kn fe en ca an co vPr vSt vFn sn vSg vAl dr) (cwV 1 hts (kGV wd_404 wd_401 wd_402 wd_403 wd_5) rfl rfl rfl (by decide +kernel) ⟨Nat.le_of_ble_eq_true rfl, Nat.le_of_ble_eq_true rfl⟩) (k_preV11 (q0 := 0) hK hPc hDc hN rfl) rfl rfl hl.1 rfl (lv_room (Nat.le_of_ble_eq_true rfl)) dX12_lacks_27 ⟨by decide +kernel, by decide +kernel⟩) hS (fun q _ h => hFc q h) hFc (fun r_9 u₀ t₀ H1 locs ht hvm hw hB hz1 hk1 hS => ?_)
      obtain ⟨hP1, hK1, hD1⟩ := hB
      rw [ht] at hP1
      have hJ := k_jn (wr := [(kAI vFo cI 4 qFo), (kAI vSi cI 4 qSi)]) (wt := [(kAI vFo cI 4 qFo), (kAI vSi cI 4 qSi), (kX12 hm vFo vSi vIt vMo 3 vBy vTy mi vMi pn vPs gn vGs fn vFt le vTo kn fe en ca an co vPr vSt vFn sn vSg vAl dr)]) hP hD hC [1, 2] rfl (by decide +kernel) (by decide +kernel) hk1 hFc hP1 hD1 rfl
      clear hP hD hPc hDc hFc hC hP1 hD1 hK1 hz1 hk1 hvm ht
      obtain ⟨hP, hD⟩ := hJ
      generalize H1 = H at hP hS ⊢
      try dsimp only at hw
      refine k_topi (v := (-13)) hw ?_
      obtain ⟨hP9, hD9⟩ := k_c2 (wc := [(kX12 hm vFo vSi vIt vMo 3 vBy vTy mi vMi pn vPs gn vGs fn vFt le vTo kn fe en ca an co vPr vSt vFn sn vSg vAl dr), (kAI vFo cI 4 qFo), (kAI vSi cI 4 qSi)]) hP hD [2, 0, 1] (by decide +kernel) rfl
      exact W.iret (v := (-13)) hx₀ hb hr (fun t₀ ht hW => ⟨⟨(-13), (k_fn [(3 : Int32)], k_fa [], k_fl [], k_fL [], k_fp []), rfl, ⟨(by rewrite [← ey_1]; exact (((((if_pos (show ¬ y_1 < 0 from (Int32.not_lt.mpr c_2))).symm).trans (if_neg (show ¬ (¬ y_1 < 0 ∧ y_1 = fm) from (fun z => c_3 z.2))).symm)).trans (if_neg (show ¬ (¬ y_1 < 0 ∧ y_1 = fm ∧ 0 ≤ i1 ∧ i1 < (qSi ss.toNatClampNeg)) from (fun z => c_3 z.2.1))).symm)), (lf_g_lacks_6 i1 ), kFd_13.symm⟩, by rw [ht]; exact hP9, va_K.moved hW.alike hK, hD9⟩, hS.F ht⟩) hS.2.2 dX12_lacks_30
  · refine lv_aload_n hx₀ hb dX12_lacks_9 rfl (lv_at hl 0 rfl) ?_
    refine lv_iconst (v := 1) hx₀ hb dX12_lacks_10 (by decide +kernel) ?_
    obtain ⟨hPc, hDc, hFc, hC⟩ := k_cw (wc := [(kX12 hm vFo vSi vIt vMo la vBy vTy mi vMi pn vPs gn vGs fn vFt le vTo kn fe en ca an co vPr vSt vFn sn vSg vAl dr)]) hP hD hS hA [0] (by decide +kernel) rfl
    refine va_calli (va_runV (As := [.int 1]) (rest := []) ⟨hx₀, hb, hml, hown, hts⟩ (g_finds1 l dC dI cI cJ cQ H.size hm vFo vSi vIt vMo la vBy vTy mi vMi pn vPs gn vGs fn vFt le vTo kn fe en ca an co vPr vSt vFn sn vSg vAl dr) (cwV 1 hts (kGV wd_404 wd_401 wd_402 wd_403 wd_5) rfl rfl rfl (by decide +kernel) ⟨Nat.le_of_ble_eq_true rfl, Nat.le_of_ble_eq_true rfl⟩) (k_preV11 (q0 := 0) hK hPc hDc hN rfl) rfl rfl hl.1 rfl (lv_room (Nat.le_of_ble_eq_true rfl)) dX12_lacks_11 ⟨by decide +kernel, by decide +kernel⟩) hS (fun q _ h => hFc q h) hFc (fun r_10 u₀ t₀ H1 locs ht hvm hw hB hz1 hk1 hS => ?_)
    obtain ⟨hP1, hK1, hD1⟩ := hB
    rw [ht] at hP1
    have hJ := k_jn (wr := [(kAI vFo cI 4 qFo), (kAI vSi cI 4 qSi)]) (wt := [(kAI vFo cI 4 qFo), (kAI vSi cI 4 qSi), (kX12 hm vFo vSi vIt vMo 1 vBy vTy mi vMi pn vPs gn vGs fn vFt le vTo kn fe en ca an co vPr vSt vFn sn vSg vAl dr)]) hP hD hC [1, 2] rfl (by decide +kernel) (by decide +kernel) hk1 hFc hP1 hD1 rfl
    clear hP hD hPc hDc hFc hC hP1 hD1 hK1 hz1 hk1 hvm ht
    obtain ⟨hP, hD⟩ := hJ
    generalize H1 = H at hP hS ⊢
    try dsimp only at hw
    refine k_topi (v := (-11)) hw ?_
    obtain ⟨hP9, hD9⟩ := k_c2 (wc := [(kX12 hm vFo vSi vIt vMo 1 vBy vTy mi vMi pn vPs gn vGs fn vFt le vTo kn fe en ca an co vPr vSt vFn sn vSg vAl dr), (kAI vFo cI 4 qFo), (kAI vSi cI 4 qSi)]) hP hD [2, 0, 1] (by decide +kernel) rfl
    exact W.iret (v := (-11)) hx₀ hb hr (fun t₀ ht hW => ⟨⟨(-11), (k_fn [(1 : Int32)], k_fa [], k_fl [], k_fL [], k_fp []), rfl, ⟨(by rewrite [← ey_1]; exact (((((if_neg (show ¬ (¬ y_1 < 0) from (fun z => z (Int32.not_le.mp c_2)))).symm).trans (if_neg (show ¬ (¬ y_1 < 0 ∧ y_1 = fm) from (fun z => (fun z => z (Int32.not_le.mp c_2)) z.1))).symm)).trans (if_neg (show ¬ (¬ y_1 < 0 ∧ y_1 = fm ∧ 0 ≤ i1 ∧ i1 < (qSi ss.toNatClampNeg)) from (fun z => (fun z => z (Int32.not_le.mp c_2)) z.1))).symm)), (lf_g_lacks_7 i1 ), kFd_11.symm⟩, by rw [ht]; exact hP9, va_K.moved hW.alike hK, hD9⟩, hS.F ht⟩) hS.2.2 dX12_lacks_14
theorem lf_g_lay_1 (a0 : Int32) (a1 : Int32) (a2 : Int32) (h0 : 0 ≤ a0 ∧ a0 ≤ 3) (h1 : ¬ a1 = 0 ∨ (0 ≤ a2 ∧ a2 < 60)) (h2 : a1 = 0) : 0 ≤ ((60 * a0) + a2).toInt ∧ ((60 * a0) + a2).toInt < 240 := by
  first | rfl | assumption | decide | exact Or.inl rfl | (first | rfl | assumption | decide | omega | (have hr0 := Int32.toInt_lt a0; have hs0 := Int32.le_toInt a0; have hr1 := Int32.toInt_lt a1; have hs1 := Int32.le_toInt a1; have hr2 := Int32.toInt_lt a2; have hs2 := Int32.le_toInt a2; simp only [Int64.toInt_add, Int64.toInt_sub, Int32.toInt_add, Int32.toInt_sub, Int32.toInt_mul, Int64.le_iff_toInt_le, Int64.lt_iff_toInt_lt, Int32.le_iff_toInt_le, Int32.lt_iff_toInt_lt, ← Int32.toInt_inj, ← Int64.toInt_inj, Int32.toInt_toInt64, kc_0, kc_3, kc_60, kc_240, true_and, and_true, not_true_eq_false, not_false_eq_true] at * <;> ((first | omega | ((try simp (disch := omega) only [k_bm64] at *); (try simp (disch := omega) only [k_bm] at *); (try simp (disch := omega) only [k_bm] at *); omega) | (simp only [Int.bmod] at *; omega)))))
set_option maxHeartbeats 4000000 in
set_option maxRecDepth 100000 in
theorem g_lay (l : Launch) (dC : Nat → ClassId) (dI : Nat → Nat → Nat) (cI cJ cQ : ClassId) (sz : Nat) (hm : Nat) (ss : Int32) (fm : Int32) (i1 : Int32) (v1 : Int32) (vFo : Nat) (vSi : Nat) (vIt : Nat) (vMo : Nat) (la : Int32) (vBy : Nat) (vTy : Nat) (mi : Int32) (vMi : Nat) (pn : Int32) (vPs : Nat) (gn : Int32) (vGs : Nat) (fn : Int32) (vFt : Nat) (le : Int32) (vTo : Nat) (kn : Int32) (fe : Int32) (en : Int32) (ca : Int32) (an : Int32) (co : Int32) (vPr : Nat) (vSt : Nat) (vFn : Nat) (sn : Int32) (vSg : Nat) (vAl : Nat) (dr : Int32) (qFo : Nat → Int32) (qSi : Nat → Int32) (qIt : Nat → Int32) (hh0 : k_bd 4 0 60 qSi) : Met l yX12_lay (kW yX12_lay cX12_lay 6 (some .int)) { frames := 2, cells := 0, slots := 0, locals := 48 } (kPre dC dI cI cJ cQ sz [.ref hm, .int ss, .int fm, .int i1, .int v1] [(kX12 hm vFo vSi vIt vMo la vBy vTy mi vMi pn vPs gn vGs fn vFt le vTo kn fe en ca an co vPr vSt vFn sn vSg vAl dr), (kAI vFo cI 4 qFo), (kAI vSi cI 4 qSi), (kAI vIt cI 240 qIt)]) (va_Qi (fun (r : Int32) (u : kS) => (r = if 0 ≤ ss ∧ ss ≤ 3 ∧ 0 ≤ fm ∧ fm ≤ 2 then (if ¬ qFo ss.toNatClampNeg < 0 ∧ qFo ss.toNatClampNeg = fm ∧ 0 ≤ i1 ∧ i1 < qSi ss.toNatClampNeg then 1 else if ¬ qFo ss.toNatClampNeg < 0 ∧ qFo ss.toNatClampNeg = fm then -12 else if ¬ qFo ss.toNatClampNeg < 0 then -13 else -11) else -2) ∧ ((u.1 0) = kFd r la) ∧ ((u.2.1 0) = if 0 ≤ ss ∧ ss ≤ 3 ∧ 0 ≤ fm ∧ fm ≤ 2 ∧ ¬ qFo ss.toNatClampNeg < 0 ∧ qFo ss.toNatClampNeg = fm ∧ 0 ≤ i1 ∧ i1 < qSi ss.toNatClampNeg then upd qIt ((60 * ss) + i1).toNatClampNeg (kCut fm v1) else qIt)) (fun (u : kS) t₀ => kB dC dI cI cJ cQ (va_A [(kX12 hm vFo vSi vIt vMo la vBy vTy mi vMi pn vPs gn vGs fn vFt le vTo kn fe en ca an co vPr vSt vFn sn vSg vAl dr), (kAI vFo cI 4 qFo), (kAI vSi cI 4 qSi), (kAI vIt cI 240 qIt)] sz) [(kX12 hm vFo vSi vIt vMo (u.1 0) vBy vTy mi vMi pn vPs gn vGs fn vFt le vTo kn fe en ca an co vPr vSt vFn sn vSg vAl dr), (kAI vFo cI 4 qFo), (kAI vSi cI 4 qSi), (kAI vIt cI 240 (u.2.1 0))] t₀) (va_A [(kX12 hm vFo vSi vIt vMo la vBy vTy mi vMi pn vPs gn vGs fn vFt le vTo kn fe en ca an co vPr vSt vFn sn vSg vAl dr), (kAI vFo cI 4 qFo), (kAI vSi cI 4 qSi), (kAI vIt cI 240 qIt)] sz)) 0 0 (va_A [(kX12 hm vFo vSi vIt vMo la vBy vTy mi vMi pn vPs gn vGs fn vFt le vTo kn fe en ca an co vPr vSt vFn sn vSg vAl dr), (kAI vFo cI 4 qFo), (kAI vSi cI 4 qSi), (kAI vIt cI 240 qIt)] sz) := by
  refine Met.ofW (cc := cX12_lay) (maxL := 6) (ret := (some .int)) (by decide) rfl ?_
  intro p₀ e₀ s₀ m₀ args below meth c₀ s₁ B hml hv₀
  obtain ⟨rfl, hsz, hP, hK, hD0, hN⟩ := hv₀
  have hx₀ := B.exec
  have hb := B.bytes
  have hr := B.returns
  have hts := atoms_spec (ws := (kW yX12_lay cX12_lay 6 (some .int))) B.pre
  have hts := fun w h => hts w (List.mem_cons_of_mem _ h)
  have hown : s₀.vm.findClass RX12 = some m₀.cls := findClass_of_methodNamed B.named
  have hlocks := B.notSynchronized
  subst hsz
  have hD := hD0.self (sz := s₀.heap.size)
  generalize hAe : va_A [(kX12 hm vFo vSi vIt vMo la vBy vTy mi vMi pn vPs gn vGs fn vFt le vTo kn fe en ca an co vPr vSt vFn sn vSg vAl dr), (kAI vFo cI 4 qFo), (kAI vSi cI 4 qSi), (kAI vIt cI 240 qIt)] s₀.heap.size = A at hD ⊢
  have hA : ∀ q : Nat, s₀.heap.size ≤ q → A q := fun q h => by rw [← hAe]; exact Or.inr h
  have hS : va_S A s₀.heap s₀.heap [] := va_S.rf
  have hP : va_P (dC, dI) vwCl [(kX12 hm vFo vSi vIt vMo la vBy vTy mi vMi pn vPs gn vGs fn vFt le vTo kn fe en ca an co vPr vSt vFn sn vSg vAl dr), (kAI vFo cI 4 qFo), (kAI vSi cI 4 qSi), (kAI vIt cI 240 qIt)] s₀.heap := hP
  have hl := lv_entry ([.ref hm, .int ss, .int fm, .int i1, .int v1]) (n := 6) (Nat.le_of_ble_eq_true rfl)
  rw [lg_entry_eq]
  generalize (lg_sl ([.ref hm, .int ss, .int fm, .int i1, .int v1]) ++ List.replicate (6 - (lg_sl ([.ref hm, .int ss, .int fm, .int i1, .int v1])).length) Slot.unset).toArray = ls at hl ⊢
  have hl : lv_has ls 6 [(0, .ref hm), (1, .int ss), (2, .int fm), (3, .int i1), (4, .int v1)] := hl
  obtain ⟨H, hH⟩ : ∃ z : Heap, z = s₀.heap := ⟨_, rfl⟩
  rw [← hH] at hP
  have hS : va_S A s₀.heap H [] := by rw [hH]; exact hS
  refine k_heap hH ?_
  have hD : va_D A [(kX12 hm vFo vSi vIt vMo la vBy vTy mi vMi pn vPs gn vGs fn vFt le vTo kn fe en ca an co vPr vSt vFn sn vSg vAl dr), (kAI vFo cI 4 qFo), (kAI vSi cI 4 qSi), (kAI vIt cI 240 qIt)] := hD
  obtain ⟨locs, hlo⟩ : ∃ z : List Loc, z = [] := ⟨_, rfl⟩
  rw [← hlo] at hS ⊢
  clear hlo hH hAe hD0
  refine lv_iload_n hx₀ hb dX12_lay_0 rfl (lv_at hl 1 rfl) ?_
  obtain ⟨hPc, hDc, hFc, hC⟩ := k_cw (wc := []) hP hD hS hA [] (by decide +kernel) rfl
  refine va_calli (va_runS (As := [.int ss]) (rest := []) ⟨hx₀, hb, hml, hown, hts⟩ (c_isSheet l dC dI cI cJ cQ H.size ss) (va_cwS 1 hts (kGS wd_400 wd_398 wd_399 wd_5) rfl rfl rfl (by decide +kernel) ⟨Nat.le_of_ble_eq_true rfl, Nat.le_of_ble_eq_true rfl⟩) (k_preS hK hPc hDc hN) rfl rfl hl.1 rfl (lv_room (Nat.le_of_ble_eq_true rfl)) dX12_lay_1 ⟨by decide +kernel, by decide +kernel⟩) hS (fun q _ h => hFc q h) hFc (fun r_1 u₀ t₀ H1 locs ht hvm hw hB hz1 hk1 hS => ?_)
  obtain ⟨hP1, hK1, hD1⟩ := hB
  rw [ht] at hP1
  have hJ := k_jn (wr := [(kX12 hm vFo vSi vIt vMo la vBy vTy mi vMi pn vPs gn vGs fn vFt le vTo kn fe en ca an co vPr vSt vFn sn vSg vAl dr), (kAI vFo cI 4 qFo), (kAI vSi cI 4 qSi), (kAI vIt cI 240 qIt)]) (wt := [(kX12 hm vFo vSi vIt vMo la vBy vTy mi vMi pn vPs gn vGs fn vFt le vTo kn fe en ca an co vPr vSt vFn sn vSg vAl dr), (kAI vFo cI 4 qFo), (kAI vSi cI 4 qSi), (kAI vIt cI 240 qIt)]) hP hD hC [0, 1, 2, 3] rfl (by decide +kernel) (by decide +kernel) hk1 hFc hP1 hD1 rfl
  clear hP hD hPc hDc hFc hC hP1 hD1 hK1 hz1 hk1 hvm ht
  obtain ⟨hP, hD⟩ := hJ
  generalize H1 = H at hP hS ⊢
  try dsimp only at hw
  by_cases c_2 : 0 ≤ ss ∧ ss ≤ 3
  · rw [if_pos c_2] at hw
    refine k_topi (v := 1) hw ?_
    refine lv_if_eq (tgt := 19) hx₀ hb dX12_lay_4 (by decide) (fun c9 => absurd c9 (by decide +kernel)) (fun _ => ?_)
    refine lv_iload_n hx₀ hb dX12_lay_7 rfl (lv_at hl 2 rfl) ?_
    refine lv_i2l hx₀ hb dX12_lay_8 rfl ?_
    refine lv_lconst (v := 0) hx₀ hb dX12_lay_9 (by decide +kernel) ?_
    refine lv_ldc2 (v := 2) hx₀ hb hown (hts (.constantLong RX12 78 (2)) wd_205) dX12_lay_10 ?_
    obtain ⟨hPc, hDc, hFc, hC⟩ := k_cw (wc := []) hP hD hS hA [] (by decide +kernel) rfl
    refine va_calli (va_runS (As := [.long fm.toInt64, .long 0, .long 2]) (rest := []) ⟨hx₀, hb, hml, hown, hts⟩ (c_in l dC dI cI cJ cQ H.size fm.toInt64 0 2) (va_cwS 3 hts (kGS wd_208 wd_206 wd_207 wd_5) rfl rfl rfl (by decide +kernel) ⟨Nat.le_of_ble_eq_true rfl, Nat.le_of_ble_eq_true rfl⟩) (k_preS hK hPc hDc hN) rfl rfl hl.1 rfl (lv_room (Nat.le_of_ble_eq_true rfl)) dX12_lay_13 ⟨by decide +kernel, by decide +kernel⟩) hS (fun q _ h => hFc q h) hFc (fun r_3 u₀ t₀ H1 locs ht hvm hw hB hz1 hk1 hS => ?_)
    obtain ⟨hP1, hK1, hD1⟩ := hB
    rw [ht] at hP1
    have hJ := k_jn (wr := [(kX12 hm vFo vSi vIt vMo la vBy vTy mi vMi pn vPs gn vGs fn vFt le vTo kn fe en ca an co vPr vSt vFn sn vSg vAl dr), (kAI vFo cI 4 qFo), (kAI vSi cI 4 qSi), (kAI vIt cI 240 qIt)]) (wt := [(kX12 hm vFo vSi vIt vMo la vBy vTy mi vMi pn vPs gn vGs fn vFt le vTo kn fe en ca an co vPr vSt vFn sn vSg vAl dr), (kAI vFo cI 4 qFo), (kAI vSi cI 4 qSi), (kAI vIt cI 240 qIt)]) hP hD hC [0, 1, 2, 3] rfl (by decide +kernel) (by decide +kernel) hk1 hFc hP1 hD1 rfl
    clear hP hD hPc hDc hFc hC hP1 hD1 hK1 hz1 hk1 hvm ht
    obtain ⟨hP, hD⟩ := hJ
    generalize H1 = H at hP hS ⊢
    try dsimp only at hw
    by_cases c_4 : (0 : Int64) ≤ fm.toInt64 ∧ fm.toInt64 ≤ (2 : Int64)
    · rw [if_pos c_4] at hw
      refine k_topi (v := 1) hw ?_
      refine lv_if_ne (tgt := 22) hx₀ hb dX12_lay_16 (by decide) (fun _ => ?_) (fun c9 => absurd c9 (by decide +kernel))
      refine lv_aload_n hx₀ hb dX12_lay_22 rfl (lv_at hl 0 rfl) ?_
      refine lv_iload_n hx₀ hb dX12_lay_23 rfl (lv_at hl 1 rfl) ?_
      refine lv_iload_n hx₀ hb dX12_lay_24 rfl (lv_at hl 2 rfl) ?_
      refine lv_iload_n hx₀ hb dX12_lay_25 rfl (lv_at hl 3 rfl) ?_
      obtain ⟨hPc, hDc, hFc, hC⟩ := k_cw (wc := [(kX12 hm vFo vSi vIt vMo la vBy vTy mi vMi pn vPs gn vGs fn vFt le vTo kn fe en ca an co vPr vSt vFn sn vSg vAl dr), (kAI vFo cI 4 qFo), (kAI vSi cI 4 qSi)]) hP hD hS hA [0, 1, 2] (by decide +kernel) rfl
      refine va_calli (va_runV (As := [.int ss, .int fm, .int i1]) (rest := []) ⟨hx₀, hb, hml, hown, hts⟩ (g_lacks l dC dI cI cJ cQ H.size hm ss fm i1 vFo vSi vIt vMo la vBy vTy mi vMi pn vPs gn vGs fn vFt le vTo kn fe en ca an co vPr vSt vFn sn vSg vAl dr qFo qSi (c_2) (hh0)) (cwV 3 hts (kGV wd_908 wd_905 wd_906 wd_907 wd_5) rfl rfl rfl (by decide +kernel) ⟨Nat.le_of_ble_eq_true rfl, Nat.le_of_ble_eq_true rfl⟩) (k_preV11 (q0 := 0) hK hPc hDc hN rfl) rfl rfl hl.1 rfl (lv_room (Nat.le_of_ble_eq_true rfl)) dX12_lay_26 ⟨by decide +kernel, by decide +kernel⟩) hS (fun q _ h => hFc q h) hFc (fun r_5 u₀ t₀ H1 locs ht hvm hw hB hz1 hk1 hS => ?_)
      obtain ⟨g_6, ga_7, gl_8, gb_9, gp_10⟩ := u₀
      obtain ⟨hP1, hK1, hD1⟩ := hB
      rw [ht] at hP1
      have hJ := k_jn (wr := [(kAI vIt cI 240 qIt)]) (wt := [(kAI vIt cI 240 qIt), (kX12 hm vFo vSi vIt vMo (g_6 0) vBy vTy mi vMi pn vPs gn vGs fn vFt le vTo kn fe en ca an co vPr vSt vFn sn vSg vAl dr), (kAI vFo cI 4 qFo), (kAI vSi cI 4 qSi)]) hP hD hC [3] rfl (by decide +kernel) (by decide +kernel) hk1 hFc hP1 hD1 rfl
      clear hP hD hPc hDc hFc hC hP1 hD1 hK1 hz1 hk1 hvm ht
      obtain ⟨hP, hD⟩ := hJ
      generalize H1 = H at hP hS ⊢
      try dsimp only at hw
      obtain ⟨c_11, c_12, c_13⟩ := hw
      have hw := c_11
      by_cases c_14 : ¬ qFo ss.toNatClampNeg < 0 ∧ qFo ss.toNatClampNeg = fm ∧ 0 ≤ i1 ∧ i1 < qSi ss.toNatClampNeg
      · rw [if_pos c_14] at hw
        have c_15 := hw
        refine k_topi (v := 0) hw ?_
        refine lv_istore (lv' := [(5, .int 0), (0, .ref hm), (1, .int ss), (2, .int fm), (3, .int i1), (4, .int v1)]) hx₀ hb dX12_lay_29 hl (by decide) rfl (fun ls hl => ?_)
        refine lv_iload hx₀ hb dX12_lay_31 (lv_at hl 0 rfl) ?_
        refine lv_if_eq (tgt := 39) hx₀ hb dX12_lay_33 (by decide) (fun _ => ?_) (fun c9 => absurd (by decide +kernel) c9)
        refine lv_aload_n hx₀ hb dX12_lay_39 rfl (lv_at hl 1 rfl) ?_
        refine va_get (D := (dC, dI)) (ci := 11) (v := .ref vIt) (C := RX12) (T := TX12) (N := 30) hx₀ hb hts inlX12 hown hK hP 1 rfl rfl 2 (by decide) (hts (.fieldLink RX12 16 "BittenStickModel" "items" "[I") wd_117) (fun _ h9 => h9) rfl dX12_lay_40 ?_
        refine lv_bipush (v := 60) hx₀ hb dX12_lay_43 (by decide +kernel) ?_
        refine lv_iload_n hx₀ hb dX12_lay_45 rfl (lv_at hl 2 rfl) ?_
        refine lv_imul hx₀ hb dX12_lay_46 ?_
        refine lv_iload_n hx₀ hb dX12_lay_47 rfl (lv_at hl 4 rfl) ?_
        refine lv_iadd hx₀ hb dX12_lay_48 ?_
        refine lv_iload_n hx₀ hb dX12_lay_49 rfl (lv_at hl 3 rfl) ?_
        refine lv_iload hx₀ hb dX12_lay_50 (lv_at hl 5 rfl) ?_
        obtain ⟨hPc, hDc, hFc, hC⟩ := k_cw (wc := []) hP hD hS hA [] (by decide +kernel) rfl
        refine va_calli (va_runS (As := [.int fm, .int v1]) (rest := [.int ((60 * ss) + i1), .ref vIt]) ⟨hx₀, hb, hml, hown, hts⟩ (g_cut l dC dI cI cJ cQ H.size fm v1) (va_cwS 2 hts (kGS wd_911 wd_909 wd_910 wd_5) rfl rfl rfl (by decide +kernel) ⟨Nat.le_of_ble_eq_true rfl, Nat.le_of_ble_eq_true rfl⟩) (k_preS hK hPc hDc hN) rfl rfl hl.1 rfl (lv_room (Nat.le_of_ble_eq_true rfl)) dX12_lay_52 ⟨by decide +kernel, by decide +kernel⟩) hS (fun q _ h => hFc q h) hFc (fun r_16 u₀ t₀ H1 locs ht hvm hw hB hz1 hk1 hS => ?_)
        obtain ⟨hP1, hK1, hD1⟩ := hB
        rw [ht] at hP1
        have hJ := k_jn (wr := [(kAI vIt cI 240 qIt), (kX12 hm vFo vSi vIt vMo (g_6 0) vBy vTy mi vMi pn vPs gn vGs fn vFt le vTo kn fe en ca an co vPr vSt vFn sn vSg vAl dr), (kAI vFo cI 4 qFo), (kAI vSi cI 4 qSi)]) (wt := [(kAI vIt cI 240 qIt), (kX12 hm vFo vSi vIt vMo (g_6 0) vBy vTy mi vMi pn vPs gn vGs fn vFt le vTo kn fe en ca an co vPr vSt vFn sn vSg vAl dr), (kAI vFo cI 4 qFo), (kAI vSi cI 4 qSi)]) hP hD hC [0, 1, 2, 3] rfl (by decide +kernel) (by decide +kernel) hk1 hFc hP1 hD1 rfl
        clear hP hD hPc hDc hFc hC hP1 hD1 hK1 hz1 hk1 hvm ht
        obtain ⟨hP, hD⟩ := hJ
        generalize H1 = H at hP hS ⊢
        try dsimp only at hw
        refine k_topi (v := kCut fm v1) hw ?_
        refine va_iast hx₀ hb hK hP hD hS 0 0 rfl rfl (vp_in_iff.mpr (lf_g_lay_1 ss r_5 i1 c_2 c_12 c_15)) dX12_lay_55 ?_
        clear hP hD hS
        intro H locs hP hD hS
        replace hP := k_w2 (wt := [(kAI vIt cI 240 (upd qIt ((60 * ss) + i1).toNatClampNeg (kCut fm v1))), (kX12 hm vFo vSi vIt vMo (g_6 0) vBy vTy mi vMi pn vPs gn vGs fn vFt le vTo kn fe en ca an co vPr vSt vFn sn vSg vAl dr), (kAI vFo cI 4 qFo), (kAI vSi cI 4 qSi)]) hP hD rfl
        replace hD := hP.2
        replace hP := hP.1
        refine lv_iconst (v := 1) hx₀ hb dX12_lay_56 (by decide +kernel) ?_
        obtain ⟨hP9, hD9⟩ := k_c2 (wc := [(kX12 hm vFo vSi vIt vMo (g_6 0) vBy vTy mi vMi pn vPs gn vGs fn vFt le vTo kn fe en ca an co vPr vSt vFn sn vSg vAl dr), (kAI vFo cI 4 qFo), (kAI vSi cI 4 qSi), (kAI vIt cI 240 (upd qIt ((60 * ss) + i1).toNatClampNeg (kCut fm v1)))]) hP hD [1, 2, 3, 0] (by decide +kernel) rfl
        exact W.iret (v := 1) hx₀ hb hr (fun t₀ ht hW => ⟨⟨1, (k_fn [(g_6 0)], k_fa [upd qIt ((60 * ss) + i1).toNatClampNeg (kCut fm v1)], k_fl [], k_fL [], k_fp []), rfl, ⟨(show (1 : Int32) = if 0 ≤ ss ∧ ss ≤ 3 ∧ 0 ≤ fm ∧ fm ≤ 2 then (if ¬ qFo ss.toNatClampNeg < 0 ∧ qFo ss.toNatClampNeg = fm ∧ 0 ≤ i1 ∧ i1 < qSi ss.toNatClampNeg then 1 else if ¬ qFo ss.toNatClampNeg < 0 ∧ qFo ss.toNatClampNeg = fm then -12 else if ¬ qFo ss.toNatClampNeg < 0 then -13 else -11) else -2 from (((if_pos (show ¬ (qFo ss.toNatClampNeg) < 0 ∧ (qFo ss.toNatClampNeg) = fm ∧ 0 ≤ i1 ∧ i1 < (qSi ss.toNatClampNeg) from ⟨c_14.1, c_14.2.1, c_14.2.2.1, c_14.2.2.2⟩)).symm).trans (if_pos (show 0 ≤ ss ∧ ss ≤ 3 ∧ 0 ≤ fm ∧ fm ≤ 2 from ⟨c_2.1, c_2.2, ((k_64 (a := fm) (l := 0) (h := 2) (by decide) (by decide)).mp c_4).1, ((k_64 (a := fm) (l := 0) (h := 2) (by decide) (by decide)).mp c_4).2⟩)).symm)), ((c_13.trans (congrArg (fun z => kFd z la) c_15)).trans ((kFd_ge (by decide)).trans (kFd_ge (by decide)).symm)), (if_pos (show 0 ≤ ss ∧ ss ≤ 3 ∧ 0 ≤ fm ∧ fm ≤ 2 ∧ ¬ qFo ss.toNatClampNeg < 0 ∧ qFo ss.toNatClampNeg = fm ∧ 0 ≤ i1 ∧ i1 < qSi ss.toNatClampNeg from ⟨c_2.1, c_2.2, ((k_64 (a := fm) (l := 0) (h := 2) (by decide) (by decide)).mp c_4).1, ((k_64 (a := fm) (l := 0) (h := 2) (by decide) (by decide)).mp c_4).2, c_14.1, c_14.2.1, c_14.2.2.1, c_14.2.2.2⟩)).symm⟩, by rw [ht]; exact hP9, va_K.moved hW.alike hK, hD9⟩, hS.F ht⟩) hS.2.2 dX12_lay_57
      rw [if_neg c_14] at hw
      by_cases c_17 : ¬ qFo ss.toNatClampNeg < 0 ∧ qFo ss.toNatClampNeg = fm
      · rw [if_pos c_17] at hw
        have c_18 := hw
        refine k_topi (v := (-12)) hw ?_
        refine lv_istore (lv' := [(5, .int (-12)), (0, .ref hm), (1, .int ss), (2, .int fm), (3, .int i1), (4, .int v1)]) hx₀ hb dX12_lay_29 hl (by decide) rfl (fun ls hl => ?_)
        refine lv_iload hx₀ hb dX12_lay_31 (lv_at hl 0 rfl) ?_
        refine lv_if_eq (tgt := 39) hx₀ hb dX12_lay_33 (by decide) (fun c9 => absurd c9 (by decide +kernel)) (fun _ => ?_)
        refine lv_iload hx₀ hb dX12_lay_36 (lv_at hl 0 rfl) ?_
        obtain ⟨hP9, hD9⟩ := k_c2 (wc := [(kX12 hm vFo vSi vIt vMo (g_6 0) vBy vTy mi vMi pn vPs gn vGs fn vFt le vTo kn fe en ca an co vPr vSt vFn sn vSg vAl dr), (kAI vFo cI 4 qFo), (kAI vSi cI 4 qSi), (kAI vIt cI 240 qIt)]) hP hD [1, 2, 3, 0] (by decide +kernel) rfl
        exact W.iret (v := (-12)) hx₀ hb hr (fun t₀ ht hW => ⟨⟨(-12), (k_fn [(g_6 0)], k_fa [qIt], k_fl [], k_fL [], k_fp []), rfl, ⟨(show ((-12) : Int32) = if 0 ≤ ss ∧ ss ≤ 3 ∧ 0 ≤ fm ∧ fm ≤ 2 then (if ¬ qFo ss.toNatClampNeg < 0 ∧ qFo ss.toNatClampNeg = fm ∧ 0 ≤ i1 ∧ i1 < qSi ss.toNatClampNeg then 1 else if ¬ qFo ss.toNatClampNeg < 0 ∧ qFo ss.toNatClampNeg = fm then -12 else if ¬ qFo ss.toNatClampNeg < 0 then -13 else -11) else -2 from (((((if_pos (show ¬ (qFo ss.toNatClampNeg) < 0 ∧ (qFo ss.toNatClampNeg) = fm from ⟨c_17.1, c_17.2⟩)).symm).trans (if_neg (c_14)).symm)).trans (if_pos (show 0 ≤ ss ∧ ss ≤ 3 ∧ 0 ≤ fm ∧ fm ≤ 2 from ⟨c_2.1, c_2.2, ((k_64 (a := fm) (l := 0) (h := 2) (by decide) (by decide)).mp c_4).1, ((k_64 (a := fm) (l := 0) (h := 2) (by decide) (by decide)).mp c_4).2⟩)).symm)), (c_13.trans (congrArg (fun z => kFd z la) c_18)), (if_neg (show ¬ (0 ≤ ss ∧ ss ≤ 3 ∧ 0 ≤ fm ∧ fm ≤ 2 ∧ ¬ qFo ss.toNatClampNeg < 0 ∧ qFo ss.toNatClampNeg = fm ∧ 0 ≤ i1 ∧ i1 < qSi ss.toNatClampNeg) from (fun z => c_14 (And.intro z.2.2.2.2.1 (And.intro z.2.2.2.2.2.1 (And.intro z.2.2.2.2.2.2.1 z.2.2.2.2.2.2.2)))))).symm⟩, by rw [ht]; exact hP9, va_K.moved hW.alike hK, hD9⟩, hS.F ht⟩) hS.2.2 dX12_lay_38
      rw [if_neg c_17] at hw
      by_cases c_19 : ¬ qFo ss.toNatClampNeg < 0
      · rw [if_pos c_19] at hw
        have c_20 := hw
        refine k_topi (v := (-13)) hw ?_
        refine lv_istore (lv' := [(5, .int (-13)), (0, .ref hm), (1, .int ss), (2, .int fm), (3, .int i1), (4, .int v1)]) hx₀ hb dX12_lay_29 hl (by decide) rfl (fun ls hl => ?_)
        refine lv_iload hx₀ hb dX12_lay_31 (lv_at hl 0 rfl) ?_
        refine lv_if_eq (tgt := 39) hx₀ hb dX12_lay_33 (by decide) (fun c9 => absurd c9 (by decide +kernel)) (fun _ => ?_)
        refine lv_iload hx₀ hb dX12_lay_36 (lv_at hl 0 rfl) ?_
        obtain ⟨hP9, hD9⟩ := k_c2 (wc := [(kX12 hm vFo vSi vIt vMo (g_6 0) vBy vTy mi vMi pn vPs gn vGs fn vFt le vTo kn fe en ca an co vPr vSt vFn sn vSg vAl dr), (kAI vFo cI 4 qFo), (kAI vSi cI 4 qSi), (kAI vIt cI 240 qIt)]) hP hD [1, 2, 3, 0] (by decide +kernel) rfl
        exact W.iret (v := (-13)) hx₀ hb hr (fun t₀ ht hW => ⟨⟨(-13), (k_fn [(g_6 0)], k_fa [qIt], k_fl [], k_fL [], k_fp []), rfl, ⟨(show ((-13) : Int32) = if 0 ≤ ss ∧ ss ≤ 3 ∧ 0 ≤ fm ∧ fm ≤ 2 then (if ¬ qFo ss.toNatClampNeg < 0 ∧ qFo ss.toNatClampNeg = fm ∧ 0 ≤ i1 ∧ i1 < qSi ss.toNatClampNeg then 1 else if ¬ qFo ss.toNatClampNeg < 0 ∧ qFo ss.toNatClampNeg = fm then -12 else if ¬ qFo ss.toNatClampNeg < 0 then -13 else -11) else -2 from (((((((if_pos (c_19)).symm).trans (if_neg (c_17)).symm)).trans (if_neg (c_14)).symm)).trans (if_pos (show 0 ≤ ss ∧ ss ≤ 3 ∧ 0 ≤ fm ∧ fm ≤ 2 from ⟨c_2.1, c_2.2, ((k_64 (a := fm) (l := 0) (h := 2) (by decide) (by decide)).mp c_4).1, ((k_64 (a := fm) (l := 0) (h := 2) (by decide) (by decide)).mp c_4).2⟩)).symm)), (c_13.trans (congrArg (fun z => kFd z la) c_20)), (if_neg (show ¬ (0 ≤ ss ∧ ss ≤ 3 ∧ 0 ≤ fm ∧ fm ≤ 2 ∧ ¬ qFo ss.toNatClampNeg < 0 ∧ qFo ss.toNatClampNeg = fm ∧ 0 ≤ i1 ∧ i1 < qSi ss.toNatClampNeg) from (fun z => c_14 (And.intro z.2.2.2.2.1 (And.intro z.2.2.2.2.2.1 (And.intro z.2.2.2.2.2.2.1 z.2.2.2.2.2.2.2)))))).symm⟩, by rw [ht]; exact hP9, va_K.moved hW.alike hK, hD9⟩, hS.F ht⟩) hS.2.2 dX12_lay_38
      rw [if_neg c_19] at hw
      have c_21 := hw
      refine k_topi (v := (-11)) hw ?_
      refine lv_istore (lv' := [(5, .int (-11)), (0, .ref hm), (1, .int ss), (2, .int fm), (3, .int i1), (4, .int v1)]) hx₀ hb dX12_lay_29 hl (by decide) rfl (fun ls hl => ?_)
      refine lv_iload hx₀ hb dX12_lay_31 (lv_at hl 0 rfl) ?_
      refine lv_if_eq (tgt := 39) hx₀ hb dX12_lay_33 (by decide) (fun c9 => absurd c9 (by decide +kernel)) (fun _ => ?_)
      refine lv_iload hx₀ hb dX12_lay_36 (lv_at hl 0 rfl) ?_
      obtain ⟨hP9, hD9⟩ := k_c2 (wc := [(kX12 hm vFo vSi vIt vMo (g_6 0) vBy vTy mi vMi pn vPs gn vGs fn vFt le vTo kn fe en ca an co vPr vSt vFn sn vSg vAl dr), (kAI vFo cI 4 qFo), (kAI vSi cI 4 qSi), (kAI vIt cI 240 qIt)]) hP hD [1, 2, 3, 0] (by decide +kernel) rfl
      exact W.iret (v := (-11)) hx₀ hb hr (fun t₀ ht hW => ⟨⟨(-11), (k_fn [(g_6 0)], k_fa [qIt], k_fl [], k_fL [], k_fp []), rfl, ⟨(show ((-11) : Int32) = if 0 ≤ ss ∧ ss ≤ 3 ∧ 0 ≤ fm ∧ fm ≤ 2 then (if ¬ qFo ss.toNatClampNeg < 0 ∧ qFo ss.toNatClampNeg = fm ∧ 0 ≤ i1 ∧ i1 < qSi ss.toNatClampNeg then 1 else if ¬ qFo ss.toNatClampNeg < 0 ∧ qFo ss.toNatClampNeg = fm then -12 else if ¬ qFo ss.toNatClampNeg < 0 then -13 else -11) else -2 from (((((((if_neg (c_19)).symm).trans (if_neg (c_17)).symm)).trans (if_neg (c_14)).symm)).trans (if_pos (show 0 ≤ ss ∧ ss ≤ 3 ∧ 0 ≤ fm ∧ fm ≤ 2 from ⟨c_2.1, c_2.2, ((k_64 (a := fm) (l := 0) (h := 2) (by decide) (by decide)).mp c_4).1, ((k_64 (a := fm) (l := 0) (h := 2) (by decide) (by decide)).mp c_4).2⟩)).symm)), (c_13.trans (congrArg (fun z => kFd z la) c_21)), (if_neg (show ¬ (0 ≤ ss ∧ ss ≤ 3 ∧ 0 ≤ fm ∧ fm ≤ 2 ∧ ¬ qFo ss.toNatClampNeg < 0 ∧ qFo ss.toNatClampNeg = fm ∧ 0 ≤ i1 ∧ i1 < qSi ss.toNatClampNeg) from (fun z => c_19 z.2.2.2.2.1))).symm⟩, by rw [ht]; exact hP9, va_K.moved hW.alike hK, hD9⟩, hS.F ht⟩) hS.2.2 dX12_lay_38
    rw [if_neg c_4] at hw
    refine k_topi (v := 0) hw ?_
    refine lv_if_ne (tgt := 22) hx₀ hb dX12_lay_16 (by decide) (fun c9 => absurd (by decide +kernel) c9) (fun _ => ?_)
    refine lv_bipush (v := (-2)) hx₀ hb dX12_lay_19 (by decide +kernel) ?_
    obtain ⟨hP9, hD9⟩ := k_c2 (wc := [(kX12 hm vFo vSi vIt vMo la vBy vTy mi vMi pn vPs gn vGs fn vFt le vTo kn fe en ca an co vPr vSt vFn sn vSg vAl dr), (kAI vFo cI 4 qFo), (kAI vSi cI 4 qSi), (kAI vIt cI 240 qIt)]) hP hD [0, 1, 2, 3] (by decide +kernel) rfl
    exact W.iret (v := (-2)) hx₀ hb hr (fun t₀ ht hW => ⟨⟨(-2), (k_fn [la], k_fa [qIt], k_fl [], k_fL [], k_fp []), rfl, ⟨(show ((-2) : Int32) = if 0 ≤ ss ∧ ss ≤ 3 ∧ 0 ≤ fm ∧ fm ≤ 2 then (if ¬ qFo ss.toNatClampNeg < 0 ∧ qFo ss.toNatClampNeg = fm ∧ 0 ≤ i1 ∧ i1 < qSi ss.toNatClampNeg then 1 else if ¬ qFo ss.toNatClampNeg < 0 ∧ qFo ss.toNatClampNeg = fm then -12 else if ¬ qFo ss.toNatClampNeg < 0 then -13 else -11) else -2 from (if_neg (show ¬ (0 ≤ ss ∧ ss ≤ 3 ∧ 0 ≤ fm ∧ fm ≤ 2) from (fun z => (fun z => c_4 ((k_64 (a := fm) (l := 0) (h := 2) (by decide) (by decide)).mpr z)) (And.intro z.2.2.1 z.2.2.2)))).symm), (kFd_ge (by decide)).symm, (if_neg (show ¬ (0 ≤ ss ∧ ss ≤ 3 ∧ 0 ≤ fm ∧ fm ≤ 2 ∧ ¬ qFo ss.toNatClampNeg < 0 ∧ qFo ss.toNatClampNeg = fm ∧ 0 ≤ i1 ∧ i1 < qSi ss.toNatClampNeg) from (fun z => (fun z => c_4 ((k_64 (a := fm) (l := 0) (h := 2) (by decide) (by decide)).mpr z)) (And.intro z.2.2.1 z.2.2.2.1)))).symm⟩, by rw [ht]; exact hP9, va_K.moved hW.alike hK, hD9⟩, hS.F ht⟩) hS.2.2 dX12_lay_21
  rw [if_neg c_2] at hw
  refine k_topi (v := 0) hw ?_
  refine lv_if_eq (tgt := 19) hx₀ hb dX12_lay_4 (by decide) (fun _ => ?_) (fun c9 => absurd (by decide +kernel) c9)
  refine lv_bipush (v := (-2)) hx₀ hb dX12_lay_19 (by decide +kernel) ?_
  obtain ⟨hP9, hD9⟩ := k_c2 (wc := [(kX12 hm vFo vSi vIt vMo la vBy vTy mi vMi pn vPs gn vGs fn vFt le vTo kn fe en ca an co vPr vSt vFn sn vSg vAl dr), (kAI vFo cI 4 qFo), (kAI vSi cI 4 qSi), (kAI vIt cI 240 qIt)]) hP hD [0, 1, 2, 3] (by decide +kernel) rfl
  exact W.iret (v := (-2)) hx₀ hb hr (fun t₀ ht hW => ⟨⟨(-2), (k_fn [la], k_fa [qIt], k_fl [], k_fL [], k_fp []), rfl, ⟨(show ((-2) : Int32) = if 0 ≤ ss ∧ ss ≤ 3 ∧ 0 ≤ fm ∧ fm ≤ 2 then (if ¬ qFo ss.toNatClampNeg < 0 ∧ qFo ss.toNatClampNeg = fm ∧ 0 ≤ i1 ∧ i1 < qSi ss.toNatClampNeg then 1 else if ¬ qFo ss.toNatClampNeg < 0 ∧ qFo ss.toNatClampNeg = fm then -12 else if ¬ qFo ss.toNatClampNeg < 0 then -13 else -11) else -2 from (if_neg (show ¬ (0 ≤ ss ∧ ss ≤ 3 ∧ 0 ≤ fm ∧ fm ≤ 2) from (fun z => c_2 (And.intro z.1 z.2.1)))).symm), (kFd_ge (by decide)).symm, (if_neg (show ¬ (0 ≤ ss ∧ ss ≤ 3 ∧ 0 ≤ fm ∧ fm ≤ 2 ∧ ¬ qFo ss.toNatClampNeg < 0 ∧ qFo ss.toNatClampNeg = fm ∧ 0 ≤ i1 ∧ i1 < qSi ss.toNatClampNeg) from (fun z => c_2 (And.intro z.1 z.2.1)))).symm⟩, by rw [ht]; exact hP9, va_K.moved hW.alike hK, hD9⟩, hS.F ht⟩) hS.2.2 dX12_lay_21
set_option maxHeartbeats 4000000 in
set_option maxRecDepth 100000 in
theorem g_get (l : Launch) (dC : Nat → ClassId) (dI : Nat → Nat → Nat) (cI cJ cQ : ClassId) (sz : Nat) (hm : Nat) (ss : Int32) (fm : Int32) (i1 : Int32) (vFo : Nat) (vSi : Nat) (vIt : Nat) (vMo : Nat) (la : Int32) (vBy : Nat) (vTy : Nat) (mi : Int32) (vMi : Nat) (pn : Int32) (vPs : Nat) (gn : Int32) (vGs : Nat) (fn : Int32) (vFt : Nat) (le : Int32) (vTo : Nat) (kn : Int32) (fe : Int32) (en : Int32) (ca : Int32) (an : Int32) (co : Int32) (vPr : Nat) (vSt : Nat) (vFn : Nat) (sn : Int32) (vSg : Nat) (vAl : Nat) (dr : Int32) (qFo : Nat → Int32) (qSi : Nat → Int32) (qIt : Nat → Int32) (hh0 : k_bd 4 0 60 qSi) : Met l yX12_get (kW yX12_get cX12_get 4 (some .int)) { frames := 2, cells := 0, slots := 0, locals := 48 } (kPre dC dI cI cJ cQ sz [.ref hm, .int ss, .int fm, .int i1] [(kX12 hm vFo vSi vIt vMo la vBy vTy mi vMi pn vPs gn vGs fn vFt le vTo kn fe en ca an co vPr vSt vFn sn vSg vAl dr), (kAI vFo cI 4 qFo), (kAI vSi cI 4 qSi), (kAI vIt cI 240 qIt)]) (va_Qi (fun (r : Int32) (u : kS) => (r = if 0 ≤ ss ∧ ss ≤ 3 ∧ 0 ≤ fm ∧ fm ≤ 2 ∧ ¬ qFo ss.toNatClampNeg < 0 ∧ qFo ss.toNatClampNeg = fm ∧ 0 ≤ i1 ∧ i1 < qSi ss.toNatClampNeg then qIt ((60 * ss) + i1).toNatClampNeg else -2147483648) ∧ ((u.1 0) = if 0 ≤ ss ∧ ss ≤ 3 ∧ 0 ≤ fm ∧ fm ≤ 2 then kFd (if ¬ qFo ss.toNatClampNeg < 0 ∧ qFo ss.toNatClampNeg = fm ∧ 0 ≤ i1 ∧ i1 < qSi ss.toNatClampNeg then 0 else if ¬ qFo ss.toNatClampNeg < 0 ∧ qFo ss.toNatClampNeg = fm then -12 else if ¬ qFo ss.toNatClampNeg < 0 then -13 else -11) la else la)) (fun (u : kS) t₀ => kB dC dI cI cJ cQ (va_A [(kX12 hm vFo vSi vIt vMo la vBy vTy mi vMi pn vPs gn vGs fn vFt le vTo kn fe en ca an co vPr vSt vFn sn vSg vAl dr), (kAI vFo cI 4 qFo), (kAI vSi cI 4 qSi), (kAI vIt cI 240 qIt)] sz) [(kX12 hm vFo vSi vIt vMo (u.1 0) vBy vTy mi vMi pn vPs gn vGs fn vFt le vTo kn fe en ca an co vPr vSt vFn sn vSg vAl dr), (kAI vFo cI 4 qFo), (kAI vSi cI 4 qSi), (kAI vIt cI 240 qIt)] t₀) (va_A [(kX12 hm vFo vSi vIt vMo la vBy vTy mi vMi pn vPs gn vGs fn vFt le vTo kn fe en ca an co vPr vSt vFn sn vSg vAl dr), (kAI vFo cI 4 qFo), (kAI vSi cI 4 qSi), (kAI vIt cI 240 qIt)] sz)) 0 0 (va_A [(kX12 hm vFo vSi vIt vMo la vBy vTy mi vMi pn vPs gn vGs fn vFt le vTo kn fe en ca an co vPr vSt vFn sn vSg vAl dr), (kAI vFo cI 4 qFo), (kAI vSi cI 4 qSi), (kAI vIt cI 240 qIt)] sz) := by
  refine Met.ofW (cc := cX12_get) (maxL := 4) (ret := (some .int)) (by decide) rfl ?_
  intro p₀ e₀ s₀ m₀ args below meth c₀ s₁ B hml hv₀
  obtain ⟨rfl, hsz, hP, hK, hD0, hN⟩ := hv₀
  have hx₀ := B.exec
  have hb := B.bytes
  have hr := B.returns
  have hts := atoms_spec (ws := (kW yX12_get cX12_get 4 (some .int))) B.pre
  have hts := fun w h => hts w (List.mem_cons_of_mem _ h)
  have hown : s₀.vm.findClass RX12 = some m₀.cls := findClass_of_methodNamed B.named
  have hlocks := B.notSynchronized
  subst hsz
  have hD := hD0.self (sz := s₀.heap.size)
  generalize hAe : va_A [(kX12 hm vFo vSi vIt vMo la vBy vTy mi vMi pn vPs gn vGs fn vFt le vTo kn fe en ca an co vPr vSt vFn sn vSg vAl dr), (kAI vFo cI 4 qFo), (kAI vSi cI 4 qSi), (kAI vIt cI 240 qIt)] s₀.heap.size = A at hD ⊢
  have hA : ∀ q : Nat, s₀.heap.size ≤ q → A q := fun q h => by rw [← hAe]; exact Or.inr h
  have hS : va_S A s₀.heap s₀.heap [] := va_S.rf
  have hP : va_P (dC, dI) vwCl [(kX12 hm vFo vSi vIt vMo la vBy vTy mi vMi pn vPs gn vGs fn vFt le vTo kn fe en ca an co vPr vSt vFn sn vSg vAl dr), (kAI vFo cI 4 qFo), (kAI vSi cI 4 qSi), (kAI vIt cI 240 qIt)] s₀.heap := hP
  have hl := lv_entry ([.ref hm, .int ss, .int fm, .int i1]) (n := 4) (Nat.le_of_ble_eq_true rfl)
  rw [lg_entry_eq]
  generalize (lg_sl ([.ref hm, .int ss, .int fm, .int i1]) ++ List.replicate (4 - (lg_sl ([.ref hm, .int ss, .int fm, .int i1])).length) Slot.unset).toArray = ls at hl ⊢
  have hl : lv_has ls 4 [(0, .ref hm), (1, .int ss), (2, .int fm), (3, .int i1)] := hl
  obtain ⟨H, hH⟩ : ∃ z : Heap, z = s₀.heap := ⟨_, rfl⟩
  rw [← hH] at hP
  have hS : va_S A s₀.heap H [] := by rw [hH]; exact hS
  refine k_heap hH ?_
  have hD : va_D A [(kX12 hm vFo vSi vIt vMo la vBy vTy mi vMi pn vPs gn vGs fn vFt le vTo kn fe en ca an co vPr vSt vFn sn vSg vAl dr), (kAI vFo cI 4 qFo), (kAI vSi cI 4 qSi), (kAI vIt cI 240 qIt)] := hD
  obtain ⟨locs, hlo⟩ : ∃ z : List Loc, z = [] := ⟨_, rfl⟩
  rw [← hlo] at hS ⊢
  clear hlo hH hAe hD0
  refine lv_iload_n hx₀ hb dX12_get_0 rfl (lv_at hl 1 rfl) ?_
  obtain ⟨hPc, hDc, hFc, hC⟩ := k_cw (wc := []) hP hD hS hA [] (by decide +kernel) rfl
  refine va_calli (va_runS (As := [.int ss]) (rest := []) ⟨hx₀, hb, hml, hown, hts⟩ (c_isSheet l dC dI cI cJ cQ H.size ss) (va_cwS 1 hts (kGS wd_400 wd_398 wd_399 wd_5) rfl rfl rfl (by decide +kernel) ⟨Nat.le_of_ble_eq_true rfl, Nat.le_of_ble_eq_true rfl⟩) (k_preS hK hPc hDc hN) rfl rfl hl.1 rfl (lv_room (Nat.le_of_ble_eq_true rfl)) dX12_get_1 ⟨by decide +kernel, by decide +kernel⟩) hS (fun q _ h => hFc q h) hFc (fun r_1 u₀ t₀ H1 locs ht hvm hw hB hz1 hk1 hS => ?_)
  obtain ⟨hP1, hK1, hD1⟩ := hB
  rw [ht] at hP1
  have hJ := k_jn (wr := [(kX12 hm vFo vSi vIt vMo la vBy vTy mi vMi pn vPs gn vGs fn vFt le vTo kn fe en ca an co vPr vSt vFn sn vSg vAl dr), (kAI vFo cI 4 qFo), (kAI vSi cI 4 qSi), (kAI vIt cI 240 qIt)]) (wt := [(kX12 hm vFo vSi vIt vMo la vBy vTy mi vMi pn vPs gn vGs fn vFt le vTo kn fe en ca an co vPr vSt vFn sn vSg vAl dr), (kAI vFo cI 4 qFo), (kAI vSi cI 4 qSi), (kAI vIt cI 240 qIt)]) hP hD hC [0, 1, 2, 3] rfl (by decide +kernel) (by decide +kernel) hk1 hFc hP1 hD1 rfl
  clear hP hD hPc hDc hFc hC hP1 hD1 hK1 hz1 hk1 hvm ht
  obtain ⟨hP, hD⟩ := hJ
  generalize H1 = H at hP hS ⊢
  try dsimp only at hw
  by_cases c_2 : 0 ≤ ss ∧ ss ≤ 3
  · rw [if_pos c_2] at hw
    refine k_topi (v := 1) hw ?_
    refine lv_if_eq (tgt := 29) hx₀ hb dX12_get_4 (by decide) (fun c9 => absurd c9 (by decide +kernel)) (fun _ => ?_)
    refine lv_iload_n hx₀ hb dX12_get_7 rfl (lv_at hl 2 rfl) ?_
    refine lv_i2l hx₀ hb dX12_get_8 rfl ?_
    refine lv_lconst (v := 0) hx₀ hb dX12_get_9 (by decide +kernel) ?_
    refine lv_ldc2 (v := 2) hx₀ hb hown (hts (.constantLong RX12 78 (2)) wd_205) dX12_get_10 ?_
    obtain ⟨hPc, hDc, hFc, hC⟩ := k_cw (wc := []) hP hD hS hA [] (by decide +kernel) rfl
    refine va_calli (va_runS (As := [.long fm.toInt64, .long 0, .long 2]) (rest := []) ⟨hx₀, hb, hml, hown, hts⟩ (c_in l dC dI cI cJ cQ H.size fm.toInt64 0 2) (va_cwS 3 hts (kGS wd_208 wd_206 wd_207 wd_5) rfl rfl rfl (by decide +kernel) ⟨Nat.le_of_ble_eq_true rfl, Nat.le_of_ble_eq_true rfl⟩) (k_preS hK hPc hDc hN) rfl rfl hl.1 rfl (lv_room (Nat.le_of_ble_eq_true rfl)) dX12_get_13 ⟨by decide +kernel, by decide +kernel⟩) hS (fun q _ h => hFc q h) hFc (fun r_3 u₀ t₀ H1 locs ht hvm hw hB hz1 hk1 hS => ?_)
    obtain ⟨hP1, hK1, hD1⟩ := hB
    rw [ht] at hP1
    have hJ := k_jn (wr := [(kX12 hm vFo vSi vIt vMo la vBy vTy mi vMi pn vPs gn vGs fn vFt le vTo kn fe en ca an co vPr vSt vFn sn vSg vAl dr), (kAI vFo cI 4 qFo), (kAI vSi cI 4 qSi), (kAI vIt cI 240 qIt)]) (wt := [(kX12 hm vFo vSi vIt vMo la vBy vTy mi vMi pn vPs gn vGs fn vFt le vTo kn fe en ca an co vPr vSt vFn sn vSg vAl dr), (kAI vFo cI 4 qFo), (kAI vSi cI 4 qSi), (kAI vIt cI 240 qIt)]) hP hD hC [0, 1, 2, 3] rfl (by decide +kernel) (by decide +kernel) hk1 hFc hP1 hD1 rfl
    clear hP hD hPc hDc hFc hC hP1 hD1 hK1 hz1 hk1 hvm ht
    obtain ⟨hP, hD⟩ := hJ
    generalize H1 = H at hP hS ⊢
    try dsimp only at hw
    by_cases c_4 : (0 : Int64) ≤ fm.toInt64 ∧ fm.toInt64 ≤ (2 : Int64)
    · rw [if_pos c_4] at hw
      refine k_topi (v := 1) hw ?_
      refine lv_if_eq (tgt := 29) hx₀ hb dX12_get_16 (by decide) (fun c9 => absurd c9 (by decide +kernel)) (fun _ => ?_)
      refine lv_aload_n hx₀ hb dX12_get_19 rfl (lv_at hl 0 rfl) ?_
      refine lv_iload_n hx₀ hb dX12_get_20 rfl (lv_at hl 1 rfl) ?_
      refine lv_iload_n hx₀ hb dX12_get_21 rfl (lv_at hl 2 rfl) ?_
      refine lv_iload_n hx₀ hb dX12_get_22 rfl (lv_at hl 3 rfl) ?_
      obtain ⟨hPc, hDc, hFc, hC⟩ := k_cw (wc := [(kX12 hm vFo vSi vIt vMo la vBy vTy mi vMi pn vPs gn vGs fn vFt le vTo kn fe en ca an co vPr vSt vFn sn vSg vAl dr), (kAI vFo cI 4 qFo), (kAI vSi cI 4 qSi)]) hP hD hS hA [0, 1, 2] (by decide +kernel) rfl
      refine va_calli (va_runV (As := [.int ss, .int fm, .int i1]) (rest := []) ⟨hx₀, hb, hml, hown, hts⟩ (g_lacks l dC dI cI cJ cQ H.size hm ss fm i1 vFo vSi vIt vMo la vBy vTy mi vMi pn vPs gn vGs fn vFt le vTo kn fe en ca an co vPr vSt vFn sn vSg vAl dr qFo qSi (c_2) (hh0)) (cwV 3 hts (kGV wd_908 wd_905 wd_906 wd_907 wd_5) rfl rfl rfl (by decide +kernel) ⟨Nat.le_of_ble_eq_true rfl, Nat.le_of_ble_eq_true rfl⟩) (k_preV11 (q0 := 0) hK hPc hDc hN rfl) rfl rfl hl.1 rfl (lv_room (Nat.le_of_ble_eq_true rfl)) dX12_get_23 ⟨by decide +kernel, by decide +kernel⟩) hS (fun q _ h => hFc q h) hFc (fun r_5 u₀ t₀ H1 locs ht hvm hw hB hz1 hk1 hS => ?_)
      obtain ⟨g_6, ga_7, gl_8, gb_9, gp_10⟩ := u₀
      obtain ⟨hP1, hK1, hD1⟩ := hB
      rw [ht] at hP1
      have hJ := k_jn (wr := [(kAI vIt cI 240 qIt)]) (wt := [(kAI vIt cI 240 qIt), (kX12 hm vFo vSi vIt vMo (g_6 0) vBy vTy mi vMi pn vPs gn vGs fn vFt le vTo kn fe en ca an co vPr vSt vFn sn vSg vAl dr), (kAI vFo cI 4 qFo), (kAI vSi cI 4 qSi)]) hP hD hC [3] rfl (by decide +kernel) (by decide +kernel) hk1 hFc hP1 hD1 rfl
      clear hP hD hPc hDc hFc hC hP1 hD1 hK1 hz1 hk1 hvm ht
      obtain ⟨hP, hD⟩ := hJ
      generalize H1 = H at hP hS ⊢
      try dsimp only at hw
      obtain ⟨c_11, c_12, c_13⟩ := hw
      have hw := c_11
      by_cases c_14 : ¬ qFo ss.toNatClampNeg < 0 ∧ qFo ss.toNatClampNeg = fm ∧ 0 ≤ i1 ∧ i1 < qSi ss.toNatClampNeg
      · rw [if_pos c_14] at hw
        have c_15 := hw
        refine k_topi (v := 0) hw ?_
        refine lv_if_eq (tgt := 32) hx₀ hb dX12_get_26 (by decide) (fun _ => ?_) (fun c9 => absurd (by decide +kernel) c9)
        refine lv_aload_n hx₀ hb dX12_get_32 rfl (lv_at hl 0 rfl) ?_
        refine va_get (D := (dC, dI)) (ci := 11) (v := .ref vIt) (C := RX12) (T := TX12) (N := 30) hx₀ hb hts inlX12 hown hK hP 1 rfl rfl 2 (by decide) (hts (.fieldLink RX12 16 "BittenStickModel" "items" "[I") wd_117) (fun _ h9 => h9) rfl dX12_get_33 ?_
        refine lv_bipush (v := 60) hx₀ hb dX12_get_36 (by decide +kernel) ?_
        refine lv_iload_n hx₀ hb dX12_get_38 rfl (lv_at hl 1 rfl) ?_
        refine lv_imul hx₀ hb dX12_get_39 ?_
        refine lv_iload_n hx₀ hb dX12_get_40 rfl (lv_at hl 3 rfl) ?_
        refine lv_iadd hx₀ hb dX12_get_41 ?_
        refine va_iald hx₀ hb hK hP 0 0 rfl rfl (vp_in_iff.mpr (lf_g_lay_1 ss r_5 i1 c_2 c_12 c_15)) dX12_get_42 ?_
        obtain ⟨hP9, hD9⟩ := k_c2 (wc := [(kX12 hm vFo vSi vIt vMo (g_6 0) vBy vTy mi vMi pn vPs gn vGs fn vFt le vTo kn fe en ca an co vPr vSt vFn sn vSg vAl dr), (kAI vFo cI 4 qFo), (kAI vSi cI 4 qSi), (kAI vIt cI 240 qIt)]) hP hD [1, 2, 3, 0] (by decide +kernel) rfl
        exact W.iret (v := qIt ((60 * ss) + i1).toNatClampNeg) hx₀ hb hr (fun t₀ ht hW => ⟨⟨qIt ((60 * ss) + i1).toNatClampNeg, (k_fn [(g_6 0)], k_fa [], k_fl [], k_fL [], k_fp []), rfl, ⟨(if_pos (show 0 ≤ ss ∧ ss ≤ 3 ∧ 0 ≤ fm ∧ fm ≤ 2 ∧ ¬ qFo ss.toNatClampNeg < 0 ∧ qFo ss.toNatClampNeg = fm ∧ 0 ≤ i1 ∧ i1 < qSi ss.toNatClampNeg from ⟨c_2.1, c_2.2, ((k_64 (a := fm) (l := 0) (h := 2) (by decide) (by decide)).mp c_4).1, ((k_64 (a := fm) (l := 0) (h := 2) (by decide) (by decide)).mp c_4).2, c_14.1, c_14.2.1, c_14.2.2.1, c_14.2.2.2⟩)).symm, ((c_13.trans (congrArg (fun z => kFd z la) c_11)).trans (if_pos (show 0 ≤ ss ∧ ss ≤ 3 ∧ 0 ≤ fm ∧ fm ≤ 2 from ⟨c_2.1, c_2.2, ((k_64 (a := fm) (l := 0) (h := 2) (by decide) (by decide)).mp c_4).1, ((k_64 (a := fm) (l := 0) (h := 2) (by decide) (by decide)).mp c_4).2⟩)).symm)⟩, by rw [ht]; exact hP9, va_K.moved hW.alike hK, hD9⟩, hS.F ht⟩) hS.2.2 dX12_get_43
      rw [if_neg c_14] at hw
      by_cases c_16 : ¬ qFo ss.toNatClampNeg < 0 ∧ qFo ss.toNatClampNeg = fm
      · rw [if_pos c_16] at hw
        have c_17 := hw
        refine k_topi (v := (-12)) hw ?_
        refine lv_if_eq (tgt := 32) hx₀ hb dX12_get_26 (by decide) (fun c9 => absurd c9 (by decide +kernel)) (fun _ => ?_)
        refine lv_ldc (v := (-2147483648)) hx₀ hb hown (hts (.constant RX12 92 (-2147483648)) wd_921) dX12_get_29 ?_
        obtain ⟨hP9, hD9⟩ := k_c2 (wc := [(kX12 hm vFo vSi vIt vMo (g_6 0) vBy vTy mi vMi pn vPs gn vGs fn vFt le vTo kn fe en ca an co vPr vSt vFn sn vSg vAl dr), (kAI vFo cI 4 qFo), (kAI vSi cI 4 qSi), (kAI vIt cI 240 qIt)]) hP hD [1, 2, 3, 0] (by decide +kernel) rfl
        exact W.iret (v := (-2147483648)) hx₀ hb hr (fun t₀ ht hW => ⟨⟨(-2147483648), (k_fn [(g_6 0)], k_fa [], k_fl [], k_fL [], k_fp []), rfl, ⟨(if_neg (show ¬ (0 ≤ ss ∧ ss ≤ 3 ∧ 0 ≤ fm ∧ fm ≤ 2 ∧ ¬ qFo ss.toNatClampNeg < 0 ∧ qFo ss.toNatClampNeg = fm ∧ 0 ≤ i1 ∧ i1 < qSi ss.toNatClampNeg) from (fun z => c_14 (And.intro z.2.2.2.2.1 (And.intro z.2.2.2.2.2.1 (And.intro z.2.2.2.2.2.2.1 z.2.2.2.2.2.2.2)))))).symm, ((c_13.trans (congrArg (fun z => kFd z la) c_11)).trans (if_pos (show 0 ≤ ss ∧ ss ≤ 3 ∧ 0 ≤ fm ∧ fm ≤ 2 from ⟨c_2.1, c_2.2, ((k_64 (a := fm) (l := 0) (h := 2) (by decide) (by decide)).mp c_4).1, ((k_64 (a := fm) (l := 0) (h := 2) (by decide) (by decide)).mp c_4).2⟩)).symm)⟩, by rw [ht]; exact hP9, va_K.moved hW.alike hK, hD9⟩, hS.F ht⟩) hS.2.2 dX12_get_31
      rw [if_neg c_16] at hw
      by_cases c_18 : ¬ qFo ss.toNatClampNeg < 0
      · rw [if_pos c_18] at hw
        have c_19 := hw
        refine k_topi (v := (-13)) hw ?_
        refine lv_if_eq (tgt := 32) hx₀ hb dX12_get_26 (by decide) (fun c9 => absurd c9 (by decide +kernel)) (fun _ => ?_)
        refine lv_ldc (v := (-2147483648)) hx₀ hb hown (hts (.constant RX12 92 (-2147483648)) wd_921) dX12_get_29 ?_
        obtain ⟨hP9, hD9⟩ := k_c2 (wc := [(kX12 hm vFo vSi vIt vMo (g_6 0) vBy vTy mi vMi pn vPs gn vGs fn vFt le vTo kn fe en ca an co vPr vSt vFn sn vSg vAl dr), (kAI vFo cI 4 qFo), (kAI vSi cI 4 qSi), (kAI vIt cI 240 qIt)]) hP hD [1, 2, 3, 0] (by decide +kernel) rfl
        exact W.iret (v := (-2147483648)) hx₀ hb hr (fun t₀ ht hW => ⟨⟨(-2147483648), (k_fn [(g_6 0)], k_fa [], k_fl [], k_fL [], k_fp []), rfl, ⟨(if_neg (show ¬ (0 ≤ ss ∧ ss ≤ 3 ∧ 0 ≤ fm ∧ fm ≤ 2 ∧ ¬ qFo ss.toNatClampNeg < 0 ∧ qFo ss.toNatClampNeg = fm ∧ 0 ≤ i1 ∧ i1 < qSi ss.toNatClampNeg) from (fun z => c_14 (And.intro z.2.2.2.2.1 (And.intro z.2.2.2.2.2.1 (And.intro z.2.2.2.2.2.2.1 z.2.2.2.2.2.2.2)))))).symm, ((c_13.trans (congrArg (fun z => kFd z la) c_11)).trans (if_pos (show 0 ≤ ss ∧ ss ≤ 3 ∧ 0 ≤ fm ∧ fm ≤ 2 from ⟨c_2.1, c_2.2, ((k_64 (a := fm) (l := 0) (h := 2) (by decide) (by decide)).mp c_4).1, ((k_64 (a := fm) (l := 0) (h := 2) (by decide) (by decide)).mp c_4).2⟩)).symm)⟩, by rw [ht]; exact hP9, va_K.moved hW.alike hK, hD9⟩, hS.F ht⟩) hS.2.2 dX12_get_31
      rw [if_neg c_18] at hw
      have c_20 := hw
      refine k_topi (v := (-11)) hw ?_
      refine lv_if_eq (tgt := 32) hx₀ hb dX12_get_26 (by decide) (fun c9 => absurd c9 (by decide +kernel)) (fun _ => ?_)
      refine lv_ldc (v := (-2147483648)) hx₀ hb hown (hts (.constant RX12 92 (-2147483648)) wd_921) dX12_get_29 ?_
      obtain ⟨hP9, hD9⟩ := k_c2 (wc := [(kX12 hm vFo vSi vIt vMo (g_6 0) vBy vTy mi vMi pn vPs gn vGs fn vFt le vTo kn fe en ca an co vPr vSt vFn sn vSg vAl dr), (kAI vFo cI 4 qFo), (kAI vSi cI 4 qSi), (kAI vIt cI 240 qIt)]) hP hD [1, 2, 3, 0] (by decide +kernel) rfl
      exact W.iret (v := (-2147483648)) hx₀ hb hr (fun t₀ ht hW => ⟨⟨(-2147483648), (k_fn [(g_6 0)], k_fa [], k_fl [], k_fL [], k_fp []), rfl, ⟨(if_neg (show ¬ (0 ≤ ss ∧ ss ≤ 3 ∧ 0 ≤ fm ∧ fm ≤ 2 ∧ ¬ qFo ss.toNatClampNeg < 0 ∧ qFo ss.toNatClampNeg = fm ∧ 0 ≤ i1 ∧ i1 < qSi ss.toNatClampNeg) from (fun z => c_18 z.2.2.2.2.1))).symm, ((c_13.trans (congrArg (fun z => kFd z la) c_11)).trans (if_pos (show 0 ≤ ss ∧ ss ≤ 3 ∧ 0 ≤ fm ∧ fm ≤ 2 from ⟨c_2.1, c_2.2, ((k_64 (a := fm) (l := 0) (h := 2) (by decide) (by decide)).mp c_4).1, ((k_64 (a := fm) (l := 0) (h := 2) (by decide) (by decide)).mp c_4).2⟩)).symm)⟩, by rw [ht]; exact hP9, va_K.moved hW.alike hK, hD9⟩, hS.F ht⟩) hS.2.2 dX12_get_31
    rw [if_neg c_4] at hw
    refine k_topi (v := 0) hw ?_
    refine lv_if_eq (tgt := 29) hx₀ hb dX12_get_16 (by decide) (fun _ => ?_) (fun c9 => absurd (by decide +kernel) c9)
    refine lv_ldc (v := (-2147483648)) hx₀ hb hown (hts (.constant RX12 92 (-2147483648)) wd_921) dX12_get_29 ?_
    obtain ⟨hP9, hD9⟩ := k_c2 (wc := [(kX12 hm vFo vSi vIt vMo la vBy vTy mi vMi pn vPs gn vGs fn vFt le vTo kn fe en ca an co vPr vSt vFn sn vSg vAl dr), (kAI vFo cI 4 qFo), (kAI vSi cI 4 qSi), (kAI vIt cI 240 qIt)]) hP hD [0, 1, 2, 3] (by decide +kernel) rfl
    exact W.iret (v := (-2147483648)) hx₀ hb hr (fun t₀ ht hW => ⟨⟨(-2147483648), (k_fn [la], k_fa [], k_fl [], k_fL [], k_fp []), rfl, ⟨(if_neg (show ¬ (0 ≤ ss ∧ ss ≤ 3 ∧ 0 ≤ fm ∧ fm ≤ 2 ∧ ¬ qFo ss.toNatClampNeg < 0 ∧ qFo ss.toNatClampNeg = fm ∧ 0 ≤ i1 ∧ i1 < qSi ss.toNatClampNeg) from (fun z => (fun z => c_4 ((k_64 (a := fm) (l := 0) (h := 2) (by decide) (by decide)).mpr z)) (And.intro z.2.2.1 z.2.2.2.1)))).symm, (if_neg (show ¬ (0 ≤ ss ∧ ss ≤ 3 ∧ 0 ≤ fm ∧ fm ≤ 2) from (fun z => (fun z => c_4 ((k_64 (a := fm) (l := 0) (h := 2) (by decide) (by decide)).mpr z)) (And.intro z.2.2.1 z.2.2.2)))).symm⟩, by rw [ht]; exact hP9, va_K.moved hW.alike hK, hD9⟩, hS.F ht⟩) hS.2.2 dX12_get_31
  rw [if_neg c_2] at hw
  refine k_topi (v := 0) hw ?_
  refine lv_if_eq (tgt := 29) hx₀ hb dX12_get_4 (by decide) (fun _ => ?_) (fun c9 => absurd (by decide +kernel) c9)
  refine lv_ldc (v := (-2147483648)) hx₀ hb hown (hts (.constant RX12 92 (-2147483648)) wd_921) dX12_get_29 ?_
  obtain ⟨hP9, hD9⟩ := k_c2 (wc := [(kX12 hm vFo vSi vIt vMo la vBy vTy mi vMi pn vPs gn vGs fn vFt le vTo kn fe en ca an co vPr vSt vFn sn vSg vAl dr), (kAI vFo cI 4 qFo), (kAI vSi cI 4 qSi), (kAI vIt cI 240 qIt)]) hP hD [0, 1, 2, 3] (by decide +kernel) rfl
  exact W.iret (v := (-2147483648)) hx₀ hb hr (fun t₀ ht hW => ⟨⟨(-2147483648), (k_fn [la], k_fa [], k_fl [], k_fL [], k_fp []), rfl, ⟨(if_neg (show ¬ (0 ≤ ss ∧ ss ≤ 3 ∧ 0 ≤ fm ∧ fm ≤ 2 ∧ ¬ qFo ss.toNatClampNeg < 0 ∧ qFo ss.toNatClampNeg = fm ∧ 0 ≤ i1 ∧ i1 < qSi ss.toNatClampNeg) from (fun z => c_2 (And.intro z.1 z.2.1)))).symm, (if_neg (show ¬ (0 ≤ ss ∧ ss ≤ 3 ∧ 0 ≤ fm ∧ fm ≤ 2) from (fun z => c_2 (And.intro z.1 z.2.1)))).symm⟩, by rw [ht]; exact hP9, va_K.moved hW.alike hK, hD9⟩, hS.F ht⟩) hS.2.2 dX12_get_31
theorem lf_g_copy_1 (a0 : Int32) (a1 : Int32) (a2 : Int32) (a3 : Int32) (a4 : Int32) (h0 : ¬ a0 < 0) (h1 : ¬ a1 < 0) (h2 : ¬ a2 < 0) (h3 : 0 ≤ a3.toInt ∧ a3.toInt ≤ 60) (h4 : 0 < (lg_cmp (a0.toInt64 + a2.toInt64) a3.toInt64)) : ¬ (0 ≤ a0 ∧ 0 ≤ a1 ∧ 0 ≤ a2 ∧ a0.toInt + a2.toInt ≤ (a3).toInt ∧ a1.toInt + a2.toInt ≤ (a4).toInt) := by
  first | rfl | assumption | decide | exact Or.inl rfl | (first | rfl | assumption | decide | omega | (have hr0 := Int32.toInt_lt a0; have hs0 := Int32.le_toInt a0; have hr1 := Int32.toInt_lt a1; have hs1 := Int32.le_toInt a1; have hr2 := Int32.toInt_lt a2; have hs2 := Int32.le_toInt a2; have hr3 := Int32.toInt_lt a3; have hs3 := Int32.le_toInt a3; have hr4 := Int32.toInt_lt a4; have hs4 := Int32.le_toInt a4; simp only [k_clt, k_cgt, k_ceq, k_cle, k_cge] at *; simp only [Int64.toInt_add, Int64.toInt_sub, Int32.toInt_add, Int32.toInt_sub, Int32.toInt_mul, Int64.le_iff_toInt_le, Int64.lt_iff_toInt_lt, Int32.le_iff_toInt_le, Int32.lt_iff_toInt_lt, ← Int32.toInt_inj, ← Int64.toInt_inj, Int32.toInt_toInt64, kc_0, kd_0, kc_60, kd_60, true_and, and_true, not_true_eq_false, not_false_eq_true] at * <;> ((first | omega | ((try simp (disch := omega) only [k_bm64] at *); (try simp (disch := omega) only [k_bm] at *); (try simp (disch := omega) only [k_bm] at *); omega) | (simp only [Int.bmod] at *; omega)))))
theorem lf_g_copy_2 (a0 : Int32) (a1 : Int32) (a2 : Int32) (a3 : Int32) (a4 : Int32) (a5 : Int32) (a6 : Int32) (a7 : Int32) (a8 : Int32) (h0 : 0 ≤ a0 ∧ a0 ≤ 3) (h1 : 0 ≤ a1 ∧ a1 ≤ 3) (h2 : ¬ a2 < 0) (h3 : 0 ≤ a3) (h4 : a2 = a3) (h5 : ¬ a4 < 0) (h6 : ¬ a5 < 0) (h7 : ¬ a6 < 0) (h8 : 0 ≤ a7.toInt ∧ a7.toInt ≤ 60) (h9 : 0 < (lg_cmp (a4.toInt64 + a6.toInt64) a7.toInt64)) : ¬ (0 ≤ a0 ∧ a0 ≤ 3 ∧ 0 ≤ a1 ∧ a1 ≤ 3 ∧ ¬ a2 < 0 ∧ ¬ a3 < 0 ∧ a2 = a3 ∧ 0 ≤ a4 ∧ 0 ≤ a5 ∧ 0 ≤ a6 ∧ a4.toInt + a6.toInt ≤ (a7).toInt ∧ a5.toInt + a6.toInt ≤ (a8).toInt) := by
  first | rfl | assumption | decide | exact Or.inl rfl | (first | rfl | assumption | decide | omega | (have hr0 := Int32.toInt_lt a0; have hs0 := Int32.le_toInt a0; have hr1 := Int32.toInt_lt a1; have hs1 := Int32.le_toInt a1; have hr2 := Int32.toInt_lt a2; have hs2 := Int32.le_toInt a2; have hr3 := Int32.toInt_lt a3; have hs3 := Int32.le_toInt a3; have hr4 := Int32.toInt_lt a4; have hs4 := Int32.le_toInt a4; have hr5 := Int32.toInt_lt a5; have hs5 := Int32.le_toInt a5; have hr6 := Int32.toInt_lt a6; have hs6 := Int32.le_toInt a6; have hr7 := Int32.toInt_lt a7; have hs7 := Int32.le_toInt a7; have hr8 := Int32.toInt_lt a8; have hs8 := Int32.le_toInt a8; simp only [k_clt, k_cgt, k_ceq, k_cle, k_cge] at *; simp only [Int64.toInt_add, Int64.toInt_sub, Int32.toInt_add, Int32.toInt_sub, Int32.toInt_mul, Int64.le_iff_toInt_le, Int64.lt_iff_toInt_lt, Int32.le_iff_toInt_le, Int32.lt_iff_toInt_lt, ← Int32.toInt_inj, ← Int64.toInt_inj, Int32.toInt_toInt64, kc_0, kd_0, kc_3, kd_3, kc_60, kd_60, true_and, and_true, not_true_eq_false, not_false_eq_true] at * <;> ((first | omega | ((try simp (disch := omega) only [k_bm64] at *); (try simp (disch := omega) only [k_bm] at *); (try simp (disch := omega) only [k_bm] at *); omega) | (simp only [Int.bmod] at *; omega)))))
theorem lf_g_copy_3 (a0 : Int32) (a1 : Int32) (a2 : Int32) (a3 : Int32) (a4 : Int32) (a5 : Int32) (a6 : Nat) (a7 : Int32) (a8 : Nat) (h0 : ¬ a0 < 0) (h1 : ¬ a1 < 0) (h2 : ¬ a2 < 0) (h3 : 0 ≤ a3.toInt ∧ a3.toInt ≤ 60) (h4 : ¬ 0 < (lg_cmp (a0.toInt64 + a2.toInt64) a3.toInt64)) (h5 : 0 ≤ a4.toInt ∧ a4.toInt ≤ 60) (h6 : (lg_cmp (a1.toInt64 + a2.toInt64) a4.toInt64) ≤ 0) (h7 : 0 ≤ a5 ∧ a5 ≤ a2) (h8 : (a2.toInt - a5.toInt).toNat = a6) (h9 : a2 ≤ a5) (h10 : 0 ≤ a7 ∧ a7 ≤ a2) (h11 : (a2.toInt - a7.toInt).toNat = a8) (h12 : a2 ≤ a7) : a0.toInt + a2.toInt ≤ (a3).toInt := by
  first | rfl | assumption | decide | exact Or.inl rfl | (first | rfl | assumption | decide | omega | (have hr0 := Int32.toInt_lt a0; have hs0 := Int32.le_toInt a0; have hr1 := Int32.toInt_lt a1; have hs1 := Int32.le_toInt a1; have hr2 := Int32.toInt_lt a2; have hs2 := Int32.le_toInt a2; have hr3 := Int32.toInt_lt a3; have hs3 := Int32.le_toInt a3; have hr4 := Int32.toInt_lt a4; have hs4 := Int32.le_toInt a4; have hr5 := Int32.toInt_lt a5; have hs5 := Int32.le_toInt a5; have hr6 := Int32.toInt_lt a7; have hs6 := Int32.le_toInt a7; simp only [k_clt, k_cgt, k_ceq, k_cle, k_cge] at *; simp only [Int64.toInt_add, Int64.toInt_sub, Int32.toInt_add, Int32.toInt_sub, Int32.toInt_mul, Int64.le_iff_toInt_le, Int64.lt_iff_toInt_lt, Int32.le_iff_toInt_le, Int32.lt_iff_toInt_lt, ← Int32.toInt_inj, ← Int64.toInt_inj, Int32.toInt_toInt64, kc_0, kd_0, kc_60, kd_60, true_and, and_true, not_true_eq_false, not_false_eq_true] at * <;> ((first | omega | ((try simp (disch := omega) only [k_bm64] at *); (try simp (disch := omega) only [k_bm] at *); (try simp (disch := omega) only [k_bm] at *); omega) | (simp only [Int.bmod] at *; omega)))))
theorem lf_g_copy_4 (a0 : Int32) (a1 : Int32) (a2 : Int32) (a3 : Int32) (a4 : Int32) (a5 : Int32) (a6 : Nat) (a7 : Int32) (a8 : Nat) (h0 : ¬ a0 < 0) (h1 : ¬ a1 < 0) (h2 : ¬ a2 < 0) (h3 : 0 ≤ a3.toInt ∧ a3.toInt ≤ 60) (h4 : ¬ 0 < (lg_cmp (a0.toInt64 + a2.toInt64) a3.toInt64)) (h5 : 0 ≤ a4.toInt ∧ a4.toInt ≤ 60) (h6 : (lg_cmp (a1.toInt64 + a2.toInt64) a4.toInt64) ≤ 0) (h7 : 0 ≤ a5 ∧ a5 ≤ a2) (h8 : (a2.toInt - a5.toInt).toNat = a6) (h9 : a2 ≤ a5) (h10 : 0 ≤ a7 ∧ a7 ≤ a2) (h11 : (a2.toInt - a7.toInt).toNat = a8) (h12 : a2 ≤ a7) : a1.toInt + a2.toInt ≤ (a4).toInt := by
  first | rfl | assumption | decide | exact Or.inl rfl | (first | rfl | assumption | decide | omega | (have hr0 := Int32.toInt_lt a0; have hs0 := Int32.le_toInt a0; have hr1 := Int32.toInt_lt a1; have hs1 := Int32.le_toInt a1; have hr2 := Int32.toInt_lt a2; have hs2 := Int32.le_toInt a2; have hr3 := Int32.toInt_lt a3; have hs3 := Int32.le_toInt a3; have hr4 := Int32.toInt_lt a4; have hs4 := Int32.le_toInt a4; have hr5 := Int32.toInt_lt a5; have hs5 := Int32.le_toInt a5; have hr6 := Int32.toInt_lt a7; have hs6 := Int32.le_toInt a7; simp only [k_clt, k_cgt, k_ceq, k_cle, k_cge] at *; simp only [Int64.toInt_add, Int64.toInt_sub, Int32.toInt_add, Int32.toInt_sub, Int32.toInt_mul, Int64.le_iff_toInt_le, Int64.lt_iff_toInt_lt, Int32.le_iff_toInt_le, Int32.lt_iff_toInt_lt, ← Int32.toInt_inj, ← Int64.toInt_inj, Int32.toInt_toInt64, kc_0, kd_0, kc_60, kd_60, true_and, and_true, not_true_eq_false, not_false_eq_true] at * <;> ((first | omega | ((try simp (disch := omega) only [k_bm64] at *); (try simp (disch := omega) only [k_bm] at *); (try simp (disch := omega) only [k_bm] at *); omega) | (simp only [Int.bmod] at *; omega)))))
theorem lf_g_copy_5 (a0 : Int32) (a1 : Int32) (a2 : Int32) (a3 : Int32) (a4 : Int32) (a5 : Int32) (a6 : Int32) (a7 : Int32) (a8 : Int32) (a9 : Int32) (a10 : Nat) (a11 : Int32) (a12 : Nat) (h0 : 0 ≤ a0 ∧ a0 ≤ 3) (h1 : 0 ≤ a1 ∧ a1 ≤ 3) (h2 : ¬ a2 < 0) (h3 : 0 ≤ a3) (h4 : a2 = a3) (h5 : ¬ a4 < 0) (h6 : ¬ a5 < 0) (h7 : ¬ a6 < 0) (h8 : 0 ≤ a7.toInt ∧ a7.toInt ≤ 60) (h9 : ¬ 0 < (lg_cmp (a4.toInt64 + a6.toInt64) a7.toInt64)) (h10 : 0 ≤ a8.toInt ∧ a8.toInt ≤ 60) (h11 : (lg_cmp (a5.toInt64 + a6.toInt64) a8.toInt64) ≤ 0) (h12 : 0 ≤ a9 ∧ a9 ≤ a6) (h13 : (a6.toInt - a9.toInt).toNat = a10) (h14 : a6 ≤ a9) (h15 : 0 ≤ a11 ∧ a11 ≤ a6) (h16 : (a6.toInt - a11.toInt).toNat = a12) (h17 : a6 ≤ a11) : 0 ≤ a0 ∧ a0 ≤ 3 ∧ 0 ≤ a1 ∧ a1 ≤ 3 ∧ ¬ a2 < 0 ∧ ¬ a3 < 0 ∧ a2 = a3 ∧ 0 ≤ a4 ∧ 0 ≤ a5 ∧ 0 ≤ a6 ∧ a4.toInt + a6.toInt ≤ (a7).toInt ∧ a5.toInt + a6.toInt ≤ (a8).toInt := by
  first | rfl | assumption | decide | exact Or.inl rfl | (first | rfl | assumption | decide | omega | (have hr0 := Int32.toInt_lt a0; have hs0 := Int32.le_toInt a0; have hr1 := Int32.toInt_lt a1; have hs1 := Int32.le_toInt a1; have hr2 := Int32.toInt_lt a2; have hs2 := Int32.le_toInt a2; have hr3 := Int32.toInt_lt a3; have hs3 := Int32.le_toInt a3; have hr4 := Int32.toInt_lt a4; have hs4 := Int32.le_toInt a4; have hr5 := Int32.toInt_lt a5; have hs5 := Int32.le_toInt a5; have hr6 := Int32.toInt_lt a6; have hs6 := Int32.le_toInt a6; have hr7 := Int32.toInt_lt a7; have hs7 := Int32.le_toInt a7; have hr8 := Int32.toInt_lt a8; have hs8 := Int32.le_toInt a8; have hr9 := Int32.toInt_lt a9; have hs9 := Int32.le_toInt a9; have hr10 := Int32.toInt_lt a11; have hs10 := Int32.le_toInt a11; simp only [k_clt, k_cgt, k_ceq, k_cle, k_cge] at *; simp only [Int64.toInt_add, Int64.toInt_sub, Int32.toInt_add, Int32.toInt_sub, Int32.toInt_mul, Int64.le_iff_toInt_le, Int64.lt_iff_toInt_lt, Int32.le_iff_toInt_le, Int32.lt_iff_toInt_lt, ← Int32.toInt_inj, ← Int64.toInt_inj, Int32.toInt_toInt64, kc_0, kd_0, kc_3, kd_3, kc_60, kd_60, true_and, and_true, not_true_eq_false, not_false_eq_true] at * <;> ((first | omega | ((try simp (disch := omega) only [k_bm64] at *); (try simp (disch := omega) only [k_bm] at *); (try simp (disch := omega) only [k_bm] at *); omega) | (simp only [Int.bmod] at *; omega)))))
theorem lf_g_copy_6 (a0 : Int32) (a1 : Int32) (a2 : Int32) (a3 : Int32) (a4 : Int32) (a5 : Int32) (a6 : Nat) (a7 : Int32) (a8 : Nat) (h0 : ¬ a0 < 0) (h1 : ¬ a1 < 0) (h2 : ¬ a2 < 0) (h3 : 0 ≤ a3.toInt ∧ a3.toInt ≤ 60) (h4 : ¬ 0 < (lg_cmp (a0.toInt64 + a2.toInt64) a3.toInt64)) (h5 : 0 ≤ a4.toInt ∧ a4.toInt ≤ 60) (h6 : (lg_cmp (a1.toInt64 + a2.toInt64) a4.toInt64) ≤ 0) (h7 : 0 ≤ a5 ∧ a5 ≤ a2) (h8 : (a2.toInt - a5.toInt).toNat = a6) (h9 : a2 ≤ a5) (h10 : 0 ≤ a7 ∧ a7 ≤ a2) (h11 : (a2.toInt - a7.toInt).toNat = a8) (h12 : ¬ a2 ≤ a7) : 0 ≤ a7.toInt ∧ a7.toInt < 60 := by
  first | rfl | assumption | decide | exact Or.inl rfl | (first | rfl | assumption | decide | omega | (have hr0 := Int32.toInt_lt a0; have hs0 := Int32.le_toInt a0; have hr1 := Int32.toInt_lt a1; have hs1 := Int32.le_toInt a1; have hr2 := Int32.toInt_lt a2; have hs2 := Int32.le_toInt a2; have hr3 := Int32.toInt_lt a3; have hs3 := Int32.le_toInt a3; have hr4 := Int32.toInt_lt a4; have hs4 := Int32.le_toInt a4; have hr5 := Int32.toInt_lt a5; have hs5 := Int32.le_toInt a5; have hr6 := Int32.toInt_lt a7; have hs6 := Int32.le_toInt a7; simp only [k_clt, k_cgt, k_ceq, k_cle, k_cge] at *; simp only [Int64.toInt_add, Int64.toInt_sub, Int32.toInt_add, Int32.toInt_sub, Int32.toInt_mul, Int64.le_iff_toInt_le, Int64.lt_iff_toInt_lt, Int32.le_iff_toInt_le, Int32.lt_iff_toInt_lt, ← Int32.toInt_inj, ← Int64.toInt_inj, Int32.toInt_toInt64, kc_0, kd_0, kc_60, kd_60, true_and, and_true, not_true_eq_false, not_false_eq_true] at * <;> ((first | omega | ((try simp (disch := omega) only [k_bm64] at *); (try simp (disch := omega) only [k_bm] at *); (try simp (disch := omega) only [k_bm] at *); omega) | (simp only [Int.bmod] at *; omega)))))
theorem lf_g_copy_7 (a0 : Int32) (a1 : Int32) (a2 : Int32) (a3 : Int32) (a4 : Int32) (a5 : Int32) (a6 : Int32) (a7 : Nat) (a8 : Int32) (a9 : Nat) (h0 : 0 ≤ a0 ∧ a0 ≤ 3) (h1 : ¬ a1 < 0) (h2 : ¬ a2 < 0) (h3 : ¬ a3 < 0) (h4 : 0 ≤ a4.toInt ∧ a4.toInt ≤ 60) (h5 : ¬ 0 < (lg_cmp (a1.toInt64 + a3.toInt64) a4.toInt64)) (h6 : 0 ≤ a5.toInt ∧ a5.toInt ≤ 60) (h7 : (lg_cmp (a2.toInt64 + a3.toInt64) a5.toInt64) ≤ 0) (h8 : 0 ≤ a6 ∧ a6 ≤ a3) (h9 : (a3.toInt - a6.toInt).toNat = a7) (h10 : a3 ≤ a6) (h11 : 0 ≤ a8 ∧ a8 ≤ a3) (h12 : (a3.toInt - a8.toInt).toNat = a9) (h13 : ¬ a3 ≤ a8) : 0 ≤ (((60 * a0) + a2) + a8).toInt ∧ (((60 * a0) + a2) + a8).toInt < 240 := by
  first | rfl | assumption | decide | exact Or.inl rfl | (first | rfl | assumption | decide | omega | (have hr0 := Int32.toInt_lt a0; have hs0 := Int32.le_toInt a0; have hr1 := Int32.toInt_lt a1; have hs1 := Int32.le_toInt a1; have hr2 := Int32.toInt_lt a2; have hs2 := Int32.le_toInt a2; have hr3 := Int32.toInt_lt a3; have hs3 := Int32.le_toInt a3; have hr4 := Int32.toInt_lt a4; have hs4 := Int32.le_toInt a4; have hr5 := Int32.toInt_lt a5; have hs5 := Int32.le_toInt a5; have hr6 := Int32.toInt_lt a6; have hs6 := Int32.le_toInt a6; have hr7 := Int32.toInt_lt a8; have hs7 := Int32.le_toInt a8; simp only [k_clt, k_cgt, k_ceq, k_cle, k_cge] at *; simp only [Int64.toInt_add, Int64.toInt_sub, Int32.toInt_add, Int32.toInt_sub, Int32.toInt_mul, Int64.le_iff_toInt_le, Int64.lt_iff_toInt_lt, Int32.le_iff_toInt_le, Int32.lt_iff_toInt_lt, ← Int32.toInt_inj, ← Int64.toInt_inj, Int32.toInt_toInt64, kc_0, kd_0, kc_3, kd_3, kc_60, kd_60, kc_240, kd_240, true_and, and_true, not_true_eq_false, not_false_eq_true] at * <;> ((first | omega | ((try simp (disch := omega) only [k_bm64] at *); (try simp (disch := omega) only [k_bm] at *); (try simp (disch := omega) only [k_bm] at *); omega) | (simp only [Int.bmod] at *; omega)))))
theorem lf_g_copy_8 (a0 : Int32) (a1 : Int32) (a2 : Int32) (a3 : Int32) (a4 : Int32) (a5 : Int32) (a6 : Nat) (a7 : Int32) (a8 : Nat) (h0 : ¬ a0 < 0) (h1 : ¬ a1 < 0) (h2 : ¬ a2 < 0) (h3 : 0 ≤ a3.toInt ∧ a3.toInt ≤ 60) (h4 : ¬ 0 < (lg_cmp (a0.toInt64 + a2.toInt64) a3.toInt64)) (h5 : 0 ≤ a4.toInt ∧ a4.toInt ≤ 60) (h6 : (lg_cmp (a1.toInt64 + a2.toInt64) a4.toInt64) ≤ 0) (h7 : 0 ≤ a5 ∧ a5 ≤ a2) (h8 : (a2.toInt - a5.toInt).toNat = a6) (h9 : a2 ≤ a5) (h10 : 0 ≤ a7 ∧ a7 ≤ a2) (h11 : (a2.toInt - a7.toInt).toNat = a8) (h12 : ¬ a2 ≤ a7) : 0 ≤ (a7 + 1) ∧ (a7 + 1) ≤ a2 := by
  first | rfl | assumption | decide | exact Or.inl rfl | (first | rfl | assumption | decide | omega | (have hr0 := Int32.toInt_lt a0; have hs0 := Int32.le_toInt a0; have hr1 := Int32.toInt_lt a1; have hs1 := Int32.le_toInt a1; have hr2 := Int32.toInt_lt a2; have hs2 := Int32.le_toInt a2; have hr3 := Int32.toInt_lt a3; have hs3 := Int32.le_toInt a3; have hr4 := Int32.toInt_lt a4; have hs4 := Int32.le_toInt a4; have hr5 := Int32.toInt_lt a5; have hs5 := Int32.le_toInt a5; have hr6 := Int32.toInt_lt a7; have hs6 := Int32.le_toInt a7; simp only [k_clt, k_cgt, k_ceq, k_cle, k_cge] at *; simp only [Int64.toInt_add, Int64.toInt_sub, Int32.toInt_add, Int32.toInt_sub, Int32.toInt_mul, Int64.le_iff_toInt_le, Int64.lt_iff_toInt_lt, Int32.le_iff_toInt_le, Int32.lt_iff_toInt_lt, ← Int32.toInt_inj, ← Int64.toInt_inj, Int32.toInt_toInt64, kc_0, kd_0, kc_1, kd_1, kc_60, kd_60, true_and, and_true, not_true_eq_false, not_false_eq_true] at * <;> ((first | omega | ((try simp (disch := omega) only [k_bm64] at *); (try simp (disch := omega) only [k_bm] at *); (try simp (disch := omega) only [k_bm] at *); omega) | (simp only [Int.bmod] at *; omega)))))
theorem lf_g_copy_9 (a0 : Int32) (a1 : Int32) (a2 : Int32) (a3 : Int32) (a4 : Int32) (a5 : Int32) (a6 : Nat) (a7 : Int32) (a8 : Nat) (h0 : ¬ a0 < 0) (h1 : ¬ a1 < 0) (h2 : ¬ a2 < 0) (h3 : 0 ≤ a3.toInt ∧ a3.toInt ≤ 60) (h4 : ¬ 0 < (lg_cmp (a0.toInt64 + a2.toInt64) a3.toInt64)) (h5 : 0 ≤ a4.toInt ∧ a4.toInt ≤ 60) (h6 : (lg_cmp (a1.toInt64 + a2.toInt64) a4.toInt64) ≤ 0) (h7 : 0 ≤ a5 ∧ a5 ≤ a2) (h8 : (a2.toInt - a5.toInt).toNat = a6) (h9 : a2 ≤ a5) (h10 : 0 ≤ a7 ∧ a7 ≤ a2) (h11 : (a2.toInt - a7.toInt).toNat = a8) (h12 : ¬ a2 ≤ a7) : 0 ≤ a1 ∧ a1.toInt ≤ 1000 := by
  first | rfl | assumption | decide | exact Or.inl rfl | (first | rfl | assumption | decide | omega | (have hr0 := Int32.toInt_lt a0; have hs0 := Int32.le_toInt a0; have hr1 := Int32.toInt_lt a1; have hs1 := Int32.le_toInt a1; have hr2 := Int32.toInt_lt a2; have hs2 := Int32.le_toInt a2; have hr3 := Int32.toInt_lt a3; have hs3 := Int32.le_toInt a3; have hr4 := Int32.toInt_lt a4; have hs4 := Int32.le_toInt a4; have hr5 := Int32.toInt_lt a5; have hs5 := Int32.le_toInt a5; have hr6 := Int32.toInt_lt a7; have hs6 := Int32.le_toInt a7; simp only [k_clt, k_cgt, k_ceq, k_cle, k_cge] at *; simp only [Int64.toInt_add, Int64.toInt_sub, Int32.toInt_add, Int32.toInt_sub, Int32.toInt_mul, Int64.le_iff_toInt_le, Int64.lt_iff_toInt_lt, Int32.le_iff_toInt_le, Int32.lt_iff_toInt_lt, ← Int32.toInt_inj, ← Int64.toInt_inj, Int32.toInt_toInt64, kc_0, kd_0, kc_60, kd_60, kc_1000, kd_1000, true_and, and_true, not_true_eq_false, not_false_eq_true] at * <;> ((first | omega | ((try simp (disch := omega) only [k_bm64] at *); (try simp (disch := omega) only [k_bm] at *); (try simp (disch := omega) only [k_bm] at *); omega) | (simp only [Int.bmod] at *; omega)))))
theorem lf_g_copy_10 (a0 : Int32) (a1 : Int32) (a2 : Int32) (a3 : Int32) (a4 : Int32) (a5 : Int32) (a6 : Nat) (a7 : Int32) (a8 : Nat) (h0 : ¬ a0 < 0) (h1 : ¬ a1 < 0) (h2 : ¬ a2 < 0) (h3 : 0 ≤ a3.toInt ∧ a3.toInt ≤ 60) (h4 : ¬ 0 < (lg_cmp (a0.toInt64 + a2.toInt64) a3.toInt64)) (h5 : 0 ≤ a4.toInt ∧ a4.toInt ≤ 60) (h6 : (lg_cmp (a1.toInt64 + a2.toInt64) a4.toInt64) ≤ 0) (h7 : 0 ≤ a5 ∧ a5 ≤ a2) (h8 : (a2.toInt - a5.toInt).toNat = a6) (h9 : a2 ≤ a5) (h10 : 0 ≤ a7 ∧ a7 ≤ a2) (h11 : (a2.toInt - a7.toInt).toNat = a8) (h12 : ¬ a2 ≤ a7) : 0 ≤ a7 ∧ a7.toInt ≤ 1000 := by
  first | rfl | assumption | decide | exact Or.inl rfl | (first | rfl | assumption | decide | omega | (have hr0 := Int32.toInt_lt a0; have hs0 := Int32.le_toInt a0; have hr1 := Int32.toInt_lt a1; have hs1 := Int32.le_toInt a1; have hr2 := Int32.toInt_lt a2; have hs2 := Int32.le_toInt a2; have hr3 := Int32.toInt_lt a3; have hs3 := Int32.le_toInt a3; have hr4 := Int32.toInt_lt a4; have hs4 := Int32.le_toInt a4; have hr5 := Int32.toInt_lt a5; have hs5 := Int32.le_toInt a5; have hr6 := Int32.toInt_lt a7; have hs6 := Int32.le_toInt a7; simp only [k_clt, k_cgt, k_ceq, k_cle, k_cge] at *; simp only [Int64.toInt_add, Int64.toInt_sub, Int32.toInt_add, Int32.toInt_sub, Int32.toInt_mul, Int64.le_iff_toInt_le, Int64.lt_iff_toInt_lt, Int32.le_iff_toInt_le, Int32.lt_iff_toInt_lt, ← Int32.toInt_inj, ← Int64.toInt_inj, Int32.toInt_toInt64, kc_0, kd_0, kc_60, kd_60, kc_1000, kd_1000, true_and, and_true, not_true_eq_false, not_false_eq_true] at * <;> ((first | omega | ((try simp (disch := omega) only [k_bm64] at *); (try simp (disch := omega) only [k_bm] at *); (try simp (disch := omega) only [k_bm] at *); omega) | (simp only [Int.bmod] at *; omega)))))
theorem lf_g_copy_11 (a0 : Int32) (a1 : Int32) (a2 : Int32) (a3 : Int32) (a4 : Int32) (a5 : Int32) (a6 : Nat) (a7 : Int32) (a8 : Nat) (h0 : ¬ a0 < 0) (h1 : ¬ a1 < 0) (h2 : ¬ a2 < 0) (h3 : 0 ≤ a3.toInt ∧ a3.toInt ≤ 60) (h4 : ¬ 0 < (lg_cmp (a0.toInt64 + a2.toInt64) a3.toInt64)) (h5 : 0 ≤ a4.toInt ∧ a4.toInt ≤ 60) (h6 : (lg_cmp (a1.toInt64 + a2.toInt64) a4.toInt64) ≤ 0) (h7 : 0 ≤ a5 ∧ a5 ≤ a2) (h8 : (a2.toInt - a5.toInt).toNat = a6) (h9 : a2 ≤ a5) (h10 : 0 ≤ a7 ∧ a7 ≤ a2) (h11 : (a2.toInt - a7.toInt).toNat = a8) (h12 : ¬ a2 ≤ a7) : (a2.toInt - (a7 + 1).toInt).toNat < a8 := by
  first | rfl | assumption | decide | exact Or.inl rfl | (first | rfl | assumption | decide | omega | (have hr0 := Int32.toInt_lt a0; have hs0 := Int32.le_toInt a0; have hr1 := Int32.toInt_lt a1; have hs1 := Int32.le_toInt a1; have hr2 := Int32.toInt_lt a2; have hs2 := Int32.le_toInt a2; have hr3 := Int32.toInt_lt a3; have hs3 := Int32.le_toInt a3; have hr4 := Int32.toInt_lt a4; have hs4 := Int32.le_toInt a4; have hr5 := Int32.toInt_lt a5; have hs5 := Int32.le_toInt a5; have hr6 := Int32.toInt_lt a7; have hs6 := Int32.le_toInt a7; simp only [k_clt, k_cgt, k_ceq, k_cle, k_cge] at *; simp only [Int64.toInt_add, Int64.toInt_sub, Int32.toInt_add, Int32.toInt_sub, Int32.toInt_mul, Int64.le_iff_toInt_le, Int64.lt_iff_toInt_lt, Int32.le_iff_toInt_le, Int32.lt_iff_toInt_lt, ← Int32.toInt_inj, ← Int64.toInt_inj, Int32.toInt_toInt64, kc_0, kd_0, kc_1, kd_1, kc_60, kd_60, true_and, and_true, not_true_eq_false, not_false_eq_true] at * <;> ((first | omega | ((try simp (disch := omega) only [k_bm64] at *); (try simp (disch := omega) only [k_bm] at *); (try simp (disch := omega) only [k_bm] at *); omega) | (simp only [Int.bmod] at *; omega)))))
theorem lf_g_copy_12 (a0 : Int32) (a1 : Int32) (a2 : Int32) (a3 : Int32) (a4 : Int32) (a5 : Int32) (a6 : Int32) (a7 : Nat) (h0 : 0 ≤ a0 ∧ a0 ≤ 3) (h1 : ¬ a1 < 0) (h2 : ¬ a2 < 0) (h3 : ¬ a3 < 0) (h4 : 0 ≤ a4.toInt ∧ a4.toInt ≤ 60) (h5 : ¬ 0 < (lg_cmp (a1.toInt64 + a3.toInt64) a4.toInt64)) (h6 : 0 ≤ a5.toInt ∧ a5.toInt ≤ 60) (h7 : (lg_cmp (a2.toInt64 + a3.toInt64) a5.toInt64) ≤ 0) (h8 : 0 ≤ a6 ∧ a6 ≤ a3) (h9 : (a3.toInt - a6.toInt).toNat = a7) (h10 : ¬ a3 ≤ a6) : 0 ≤ (((60 * a0) + a1) + a6).toInt ∧ (((60 * a0) + a1) + a6).toInt < 240 := by
  first | rfl | assumption | decide | exact Or.inl rfl | (first | rfl | assumption | decide | omega | (have hr0 := Int32.toInt_lt a0; have hs0 := Int32.le_toInt a0; have hr1 := Int32.toInt_lt a1; have hs1 := Int32.le_toInt a1; have hr2 := Int32.toInt_lt a2; have hs2 := Int32.le_toInt a2; have hr3 := Int32.toInt_lt a3; have hs3 := Int32.le_toInt a3; have hr4 := Int32.toInt_lt a4; have hs4 := Int32.le_toInt a4; have hr5 := Int32.toInt_lt a5; have hs5 := Int32.le_toInt a5; have hr6 := Int32.toInt_lt a6; have hs6 := Int32.le_toInt a6; simp only [k_clt, k_cgt, k_ceq, k_cle, k_cge] at *; simp only [Int64.toInt_add, Int64.toInt_sub, Int32.toInt_add, Int32.toInt_sub, Int32.toInt_mul, Int64.le_iff_toInt_le, Int64.lt_iff_toInt_lt, Int32.le_iff_toInt_le, Int32.lt_iff_toInt_lt, ← Int32.toInt_inj, ← Int64.toInt_inj, Int32.toInt_toInt64, kc_0, kd_0, kc_3, kd_3, kc_60, kd_60, kc_240, kd_240, true_and, and_true, not_true_eq_false, not_false_eq_true] at * <;> ((first | omega | ((try simp (disch := omega) only [k_bm64] at *); (try simp (disch := omega) only [k_bm] at *); (try simp (disch := omega) only [k_bm] at *); omega) | (simp only [Int.bmod] at *; omega)))))
theorem lf_g_copy_13 (a0 : Int32) (a1 : Int32) (a2 : Int32) (a3 : Int32) (a4 : Int32) (a5 : Int32) (a6 : Nat) (h0 : ¬ a0 < 0) (h1 : ¬ a1 < 0) (h2 : ¬ a2 < 0) (h3 : 0 ≤ a3.toInt ∧ a3.toInt ≤ 60) (h4 : ¬ 0 < (lg_cmp (a0.toInt64 + a2.toInt64) a3.toInt64)) (h5 : 0 ≤ a4.toInt ∧ a4.toInt ≤ 60) (h6 : (lg_cmp (a1.toInt64 + a2.toInt64) a4.toInt64) ≤ 0) (h7 : 0 ≤ a5 ∧ a5 ≤ a2) (h8 : (a2.toInt - a5.toInt).toNat = a6) (h9 : ¬ a2 ≤ a5) : 0 ≤ a5.toInt ∧ a5.toInt < 60 := by
  first | rfl | assumption | decide | exact Or.inl rfl | (first | rfl | assumption | decide | omega | (have hr0 := Int32.toInt_lt a0; have hs0 := Int32.le_toInt a0; have hr1 := Int32.toInt_lt a1; have hs1 := Int32.le_toInt a1; have hr2 := Int32.toInt_lt a2; have hs2 := Int32.le_toInt a2; have hr3 := Int32.toInt_lt a3; have hs3 := Int32.le_toInt a3; have hr4 := Int32.toInt_lt a4; have hs4 := Int32.le_toInt a4; have hr5 := Int32.toInt_lt a5; have hs5 := Int32.le_toInt a5; simp only [k_clt, k_cgt, k_ceq, k_cle, k_cge] at *; simp only [Int64.toInt_add, Int64.toInt_sub, Int32.toInt_add, Int32.toInt_sub, Int32.toInt_mul, Int64.le_iff_toInt_le, Int64.lt_iff_toInt_lt, Int32.le_iff_toInt_le, Int32.lt_iff_toInt_lt, ← Int32.toInt_inj, ← Int64.toInt_inj, Int32.toInt_toInt64, kc_0, kd_0, kc_60, kd_60, true_and, and_true, not_true_eq_false, not_false_eq_true] at * <;> ((first | omega | ((try simp (disch := omega) only [k_bm64] at *); (try simp (disch := omega) only [k_bm] at *); (try simp (disch := omega) only [k_bm] at *); omega) | (simp only [Int.bmod] at *; omega)))))
theorem lf_g_copy_14 (a0 : Int32) (a1 : Int32) (a2 : Int32) (a3 : Int32) (a4 : Int32) (a5 : Int32) (a6 : Nat) (h0 : ¬ a0 < 0) (h1 : ¬ a1 < 0) (h2 : ¬ a2 < 0) (h3 : 0 ≤ a3.toInt ∧ a3.toInt ≤ 60) (h4 : ¬ 0 < (lg_cmp (a0.toInt64 + a2.toInt64) a3.toInt64)) (h5 : 0 ≤ a4.toInt ∧ a4.toInt ≤ 60) (h6 : (lg_cmp (a1.toInt64 + a2.toInt64) a4.toInt64) ≤ 0) (h7 : 0 ≤ a5 ∧ a5 ≤ a2) (h8 : (a2.toInt - a5.toInt).toNat = a6) (h9 : ¬ a2 ≤ a5) : 0 ≤ (a5 + 1) ∧ (a5 + 1) ≤ a2 := by
  first | rfl | assumption | decide | exact Or.inl rfl | (first | rfl | assumption | decide | omega | (have hr0 := Int32.toInt_lt a0; have hs0 := Int32.le_toInt a0; have hr1 := Int32.toInt_lt a1; have hs1 := Int32.le_toInt a1; have hr2 := Int32.toInt_lt a2; have hs2 := Int32.le_toInt a2; have hr3 := Int32.toInt_lt a3; have hs3 := Int32.le_toInt a3; have hr4 := Int32.toInt_lt a4; have hs4 := Int32.le_toInt a4; have hr5 := Int32.toInt_lt a5; have hs5 := Int32.le_toInt a5; simp only [k_clt, k_cgt, k_ceq, k_cle, k_cge] at *; simp only [Int64.toInt_add, Int64.toInt_sub, Int32.toInt_add, Int32.toInt_sub, Int32.toInt_mul, Int64.le_iff_toInt_le, Int64.lt_iff_toInt_lt, Int32.le_iff_toInt_le, Int32.lt_iff_toInt_lt, ← Int32.toInt_inj, ← Int64.toInt_inj, Int32.toInt_toInt64, kc_0, kd_0, kc_1, kd_1, kc_60, kd_60, true_and, and_true, not_true_eq_false, not_false_eq_true] at * <;> ((first | omega | ((try simp (disch := omega) only [k_bm64] at *); (try simp (disch := omega) only [k_bm] at *); (try simp (disch := omega) only [k_bm] at *); omega) | (simp only [Int.bmod] at *; omega)))))
theorem lf_g_copy_15 (a0 : Int32) (a1 : Int32) (a2 : Int32) (a3 : Int32) (a4 : Int32) (a5 : Int32) (a6 : Nat) (h0 : ¬ a0 < 0) (h1 : ¬ a1 < 0) (h2 : ¬ a2 < 0) (h3 : 0 ≤ a3.toInt ∧ a3.toInt ≤ 60) (h4 : ¬ 0 < (lg_cmp (a0.toInt64 + a2.toInt64) a3.toInt64)) (h5 : 0 ≤ a4.toInt ∧ a4.toInt ≤ 60) (h6 : (lg_cmp (a1.toInt64 + a2.toInt64) a4.toInt64) ≤ 0) (h7 : 0 ≤ a5 ∧ a5 ≤ a2) (h8 : (a2.toInt - a5.toInt).toNat = a6) (h9 : ¬ a2 ≤ a5) : 0 ≤ a5 ∧ a5.toInt ≤ 1000 := by
  first | rfl | assumption | decide | exact Or.inl rfl | (first | rfl | assumption | decide | omega | (have hr0 := Int32.toInt_lt a0; have hs0 := Int32.le_toInt a0; have hr1 := Int32.toInt_lt a1; have hs1 := Int32.le_toInt a1; have hr2 := Int32.toInt_lt a2; have hs2 := Int32.le_toInt a2; have hr3 := Int32.toInt_lt a3; have hs3 := Int32.le_toInt a3; have hr4 := Int32.toInt_lt a4; have hs4 := Int32.le_toInt a4; have hr5 := Int32.toInt_lt a5; have hs5 := Int32.le_toInt a5; simp only [k_clt, k_cgt, k_ceq, k_cle, k_cge] at *; simp only [Int64.toInt_add, Int64.toInt_sub, Int32.toInt_add, Int32.toInt_sub, Int32.toInt_mul, Int64.le_iff_toInt_le, Int64.lt_iff_toInt_lt, Int32.le_iff_toInt_le, Int32.lt_iff_toInt_lt, ← Int32.toInt_inj, ← Int64.toInt_inj, Int32.toInt_toInt64, kc_0, kd_0, kc_60, kd_60, kc_1000, kd_1000, true_and, and_true, not_true_eq_false, not_false_eq_true] at * <;> ((first | omega | ((try simp (disch := omega) only [k_bm64] at *); (try simp (disch := omega) only [k_bm] at *); (try simp (disch := omega) only [k_bm] at *); omega) | (simp only [Int.bmod] at *; omega)))))
theorem lf_g_copy_16 (a0 : Int32) (a1 : Int32) (a2 : Int32) (a3 : Int32) (a4 : Int32) (a5 : Int32) (a6 : Nat) (h0 : ¬ a0 < 0) (h1 : ¬ a1 < 0) (h2 : ¬ a2 < 0) (h3 : 0 ≤ a3.toInt ∧ a3.toInt ≤ 60) (h4 : ¬ 0 < (lg_cmp (a0.toInt64 + a2.toInt64) a3.toInt64)) (h5 : 0 ≤ a4.toInt ∧ a4.toInt ≤ 60) (h6 : (lg_cmp (a1.toInt64 + a2.toInt64) a4.toInt64) ≤ 0) (h7 : 0 ≤ a5 ∧ a5 ≤ a2) (h8 : (a2.toInt - a5.toInt).toNat = a6) (h9 : ¬ a2 ≤ a5) : (a2.toInt - (a5 + 1).toInt).toNat < a6 := by
  first | rfl | assumption | decide | exact Or.inl rfl | (first | rfl | assumption | decide | omega | (have hr0 := Int32.toInt_lt a0; have hs0 := Int32.le_toInt a0; have hr1 := Int32.toInt_lt a1; have hs1 := Int32.le_toInt a1; have hr2 := Int32.toInt_lt a2; have hs2 := Int32.le_toInt a2; have hr3 := Int32.toInt_lt a3; have hs3 := Int32.le_toInt a3; have hr4 := Int32.toInt_lt a4; have hs4 := Int32.le_toInt a4; have hr5 := Int32.toInt_lt a5; have hs5 := Int32.le_toInt a5; simp only [k_clt, k_cgt, k_ceq, k_cle, k_cge] at *; simp only [Int64.toInt_add, Int64.toInt_sub, Int32.toInt_add, Int32.toInt_sub, Int32.toInt_mul, Int64.le_iff_toInt_le, Int64.lt_iff_toInt_lt, Int32.le_iff_toInt_le, Int32.lt_iff_toInt_lt, ← Int32.toInt_inj, ← Int64.toInt_inj, Int32.toInt_toInt64, kc_0, kd_0, kc_1, kd_1, kc_60, kd_60, true_and, and_true, not_true_eq_false, not_false_eq_true] at * <;> ((first | omega | ((try simp (disch := omega) only [k_bm64] at *); (try simp (disch := omega) only [k_bm] at *); (try simp (disch := omega) only [k_bm] at *); omega) | (simp only [Int.bmod] at *; omega)))))
theorem lf_g_copy_17 (a0 : Int32) (a1 : Int32) (a2 : Int32) (a3 : Int32) (a4 : Int32) (h0 : ¬ a0 < 0) (h1 : ¬ a1 < 0) (h2 : ¬ a2 < 0) (h3 : 0 ≤ a3.toInt ∧ a3.toInt ≤ 60) (h4 : ¬ 0 < (lg_cmp (a0.toInt64 + a2.toInt64) a3.toInt64)) (h5 : 0 ≤ a4.toInt ∧ a4.toInt ≤ 60) (h6 : ¬ (lg_cmp (a1.toInt64 + a2.toInt64) a4.toInt64) ≤ 0) : ¬ (0 ≤ a0 ∧ 0 ≤ a1 ∧ 0 ≤ a2 ∧ a0.toInt + a2.toInt ≤ (a3).toInt ∧ a1.toInt + a2.toInt ≤ (a4).toInt) := by
  first | rfl | assumption | decide | exact Or.inl rfl | (first | rfl | assumption | decide | omega | (have hr0 := Int32.toInt_lt a0; have hs0 := Int32.le_toInt a0; have hr1 := Int32.toInt_lt a1; have hs1 := Int32.le_toInt a1; have hr2 := Int32.toInt_lt a2; have hs2 := Int32.le_toInt a2; have hr3 := Int32.toInt_lt a3; have hs3 := Int32.le_toInt a3; have hr4 := Int32.toInt_lt a4; have hs4 := Int32.le_toInt a4; simp only [k_clt, k_cgt, k_ceq, k_cle, k_cge] at *; simp only [Int64.toInt_add, Int64.toInt_sub, Int32.toInt_add, Int32.toInt_sub, Int32.toInt_mul, Int64.le_iff_toInt_le, Int64.lt_iff_toInt_lt, Int32.le_iff_toInt_le, Int32.lt_iff_toInt_lt, ← Int32.toInt_inj, ← Int64.toInt_inj, Int32.toInt_toInt64, kc_0, kd_0, kc_60, kd_60, true_and, and_true, not_true_eq_false, not_false_eq_true] at * <;> ((first | omega | ((try simp (disch := omega) only [k_bm64] at *); (try simp (disch := omega) only [k_bm] at *); (try simp (disch := omega) only [k_bm] at *); omega) | (simp only [Int.bmod] at *; omega)))))
theorem lf_g_copy_18 (a0 : Int32) (a1 : Int32) (a2 : Int32) (a3 : Int32) (a4 : Int32) (a5 : Int32) (a6 : Int32) (a7 : Int32) (a8 : Int32) (h0 : 0 ≤ a0 ∧ a0 ≤ 3) (h1 : 0 ≤ a1 ∧ a1 ≤ 3) (h2 : ¬ a2 < 0) (h3 : 0 ≤ a3) (h4 : a2 = a3) (h5 : ¬ a4 < 0) (h6 : ¬ a5 < 0) (h7 : ¬ a6 < 0) (h8 : 0 ≤ a7.toInt ∧ a7.toInt ≤ 60) (h9 : ¬ 0 < (lg_cmp (a4.toInt64 + a6.toInt64) a7.toInt64)) (h10 : 0 ≤ a8.toInt ∧ a8.toInt ≤ 60) (h11 : ¬ (lg_cmp (a5.toInt64 + a6.toInt64) a8.toInt64) ≤ 0) : ¬ (0 ≤ a0 ∧ a0 ≤ 3 ∧ 0 ≤ a1 ∧ a1 ≤ 3 ∧ ¬ a2 < 0 ∧ ¬ a3 < 0 ∧ a2 = a3 ∧ 0 ≤ a4 ∧ 0 ≤ a5 ∧ 0 ≤ a6 ∧ a4.toInt + a6.toInt ≤ (a7).toInt ∧ a5.toInt + a6.toInt ≤ (a8).toInt) := by
  first | rfl | assumption | decide | exact Or.inl rfl | (first | rfl | assumption | decide | omega | (have hr0 := Int32.toInt_lt a0; have hs0 := Int32.le_toInt a0; have hr1 := Int32.toInt_lt a1; have hs1 := Int32.le_toInt a1; have hr2 := Int32.toInt_lt a2; have hs2 := Int32.le_toInt a2; have hr3 := Int32.toInt_lt a3; have hs3 := Int32.le_toInt a3; have hr4 := Int32.toInt_lt a4; have hs4 := Int32.le_toInt a4; have hr5 := Int32.toInt_lt a5; have hs5 := Int32.le_toInt a5; have hr6 := Int32.toInt_lt a6; have hs6 := Int32.le_toInt a6; have hr7 := Int32.toInt_lt a7; have hs7 := Int32.le_toInt a7; have hr8 := Int32.toInt_lt a8; have hs8 := Int32.le_toInt a8; simp only [k_clt, k_cgt, k_ceq, k_cle, k_cge] at *; simp only [Int64.toInt_add, Int64.toInt_sub, Int32.toInt_add, Int32.toInt_sub, Int32.toInt_mul, Int64.le_iff_toInt_le, Int64.lt_iff_toInt_lt, Int32.le_iff_toInt_le, Int32.lt_iff_toInt_lt, ← Int32.toInt_inj, ← Int64.toInt_inj, Int32.toInt_toInt64, kc_0, kd_0, kc_3, kd_3, kc_60, kd_60, true_and, and_true, not_true_eq_false, not_false_eq_true] at * <;> ((first | omega | ((try simp (disch := omega) only [k_bm64] at *); (try simp (disch := omega) only [k_bm] at *); (try simp (disch := omega) only [k_bm] at *); omega) | (simp only [Int.bmod] at *; omega)))))
set_option maxHeartbeats 4000000 in
set_option maxRecDepth 100000 in
theorem g_copy (l : Launch) (dC : Nat → ClassId) (dI : Nat → Nat → Nat) (cI cJ cQ : ClassId) (sz : Nat) (hm : Nat) (ss : Int32) (i1 : Int32) (s2 : Int32) (j1 : Int32) (nn : Int32) (vFo : Nat) (vSi : Nat) (vIt : Nat) (vMo : Nat) (la : Int32) (vBy : Nat) (vTy : Nat) (mi : Int32) (vMi : Nat) (pn : Int32) (vPs : Nat) (gn : Int32) (vGs : Nat) (fn : Int32) (vFt : Nat) (le : Int32) (vTo : Nat) (kn : Int32) (fe : Int32) (en : Int32) (ca : Int32) (an : Int32) (co : Int32) (vPr : Nat) (vSt : Nat) (vFn : Nat) (sn : Int32) (vSg : Nat) (vAl : Nat) (dr : Int32) (qFo : Nat → Int32) (qSi : Nat → Int32) (qIt : Nat → Int32) (qMv : Nat → Int32) (hh0 : k_bd 4 0 60 qSi) : Met l yX12_copy (kW yX12_copy cX12_copy 7 (some .int)) { frames := 2, cells := 0, slots := 0, locals := 45 } (kPre dC dI cI cJ cQ sz [.ref hm, .int ss, .int i1, .int s2, .int j1, .int nn] [(kX12 hm vFo vSi vIt vMo la vBy vTy mi vMi pn vPs gn vGs fn vFt le vTo kn fe en ca an co vPr vSt vFn sn vSg vAl dr), (kAI vFo cI 4 qFo), (kAI vSi cI 4 qSi), (kAI vIt cI 240 qIt), (kAI vMo cI 60 qMv)]) (va_Qi (fun (r : Int32) (u : kS) => (r = if 0 ≤ ss ∧ ss ≤ 3 ∧ 0 ≤ s2 ∧ s2 ≤ 3 then (if ¬ qFo ss.toNatClampNeg < 0 ∧ ¬ qFo s2.toNatClampNeg < 0 then (if qFo ss.toNatClampNeg = qFo s2.toNatClampNeg then (if 0 ≤ i1 ∧ 0 ≤ j1 ∧ 0 ≤ nn ∧ i1.toInt + nn.toInt ≤ (qSi ss.toNatClampNeg).toInt ∧ j1.toInt + nn.toInt ≤ (qSi s2.toNatClampNeg).toInt then 1 else -12) else -14) else -11) else -2) ∧ ((u.1 0) = kFd r la) ∧ ((u.2.1 0) = if 0 ≤ ss ∧ ss ≤ 3 ∧ 0 ≤ s2 ∧ s2 ≤ 3 ∧ ¬ qFo ss.toNatClampNeg < 0 ∧ ¬ qFo s2.toNatClampNeg < 0 ∧ qFo ss.toNatClampNeg = qFo s2.toNatClampNeg ∧ 0 ≤ i1 ∧ 0 ≤ j1 ∧ 0 ≤ nn ∧ i1.toInt + nn.toInt ≤ (qSi ss.toNatClampNeg).toInt ∧ j1.toInt + nn.toInt ≤ (qSi s2.toNatClampNeg).toInt then kCq qIt (u.2.1 1) s2 j1 nn else qIt) ∧ (k_im (0 ≤ ss ∧ ss ≤ 3 ∧ 0 ≤ s2 ∧ s2 ≤ 3 ∧ ¬ qFo ss.toNatClampNeg < 0 ∧ ¬ qFo s2.toNatClampNeg < 0 ∧ qFo ss.toNatClampNeg = qFo s2.toNatClampNeg ∧ 0 ≤ i1 ∧ 0 ≤ j1 ∧ 0 ≤ nn ∧ i1.toInt + nn.toInt ≤ (qSi ss.toNatClampNeg).toInt ∧ j1.toInt + nn.toInt ≤ (qSi s2.toNatClampNeg).toInt) (k_mv qIt (u.2.1 1) ss i1 nn))) (fun (u : kS) t₀ => kB dC dI cI cJ cQ (va_A [(kX12 hm vFo vSi vIt vMo la vBy vTy mi vMi pn vPs gn vGs fn vFt le vTo kn fe en ca an co vPr vSt vFn sn vSg vAl dr), (kAI vFo cI 4 qFo), (kAI vSi cI 4 qSi), (kAI vIt cI 240 qIt), (kAI vMo cI 60 qMv)] sz) [(kX12 hm vFo vSi vIt vMo (u.1 0) vBy vTy mi vMi pn vPs gn vGs fn vFt le vTo kn fe en ca an co vPr vSt vFn sn vSg vAl dr), (kAI vFo cI 4 qFo), (kAI vSi cI 4 qSi), (kAI vIt cI 240 (u.2.1 0)), (kAI vMo cI 60 (u.2.1 1))] t₀) (va_A [(kX12 hm vFo vSi vIt vMo la vBy vTy mi vMi pn vPs gn vGs fn vFt le vTo kn fe en ca an co vPr vSt vFn sn vSg vAl dr), (kAI vFo cI 4 qFo), (kAI vSi cI 4 qSi), (kAI vIt cI 240 qIt), (kAI vMo cI 60 qMv)] sz)) 0 0 (va_A [(kX12 hm vFo vSi vIt vMo la vBy vTy mi vMi pn vPs gn vGs fn vFt le vTo kn fe en ca an co vPr vSt vFn sn vSg vAl dr), (kAI vFo cI 4 qFo), (kAI vSi cI 4 qSi), (kAI vIt cI 240 qIt), (kAI vMo cI 60 qMv)] sz) := by
  refine Met.ofW (cc := cX12_copy) (maxL := 7) (ret := (some .int)) (by decide) rfl ?_
  intro p₀ e₀ s₀ m₀ args below meth c₀ s₁ B hml hv₀
  obtain ⟨rfl, hsz, hP, hK, hD0, hN⟩ := hv₀
  have hx₀ := B.exec
  have hb := B.bytes
  have hr := B.returns
  have hts := atoms_spec (ws := (kW yX12_copy cX12_copy 7 (some .int))) B.pre
  have hts := fun w h => hts w (List.mem_cons_of_mem _ h)
  have hown : s₀.vm.findClass RX12 = some m₀.cls := findClass_of_methodNamed B.named
  have hlocks := B.notSynchronized
  subst hsz
  have hD := hD0.self (sz := s₀.heap.size)
  generalize hAe : va_A [(kX12 hm vFo vSi vIt vMo la vBy vTy mi vMi pn vPs gn vGs fn vFt le vTo kn fe en ca an co vPr vSt vFn sn vSg vAl dr), (kAI vFo cI 4 qFo), (kAI vSi cI 4 qSi), (kAI vIt cI 240 qIt), (kAI vMo cI 60 qMv)] s₀.heap.size = A at hD ⊢
  have hA : ∀ q : Nat, s₀.heap.size ≤ q → A q := fun q h => by rw [← hAe]; exact Or.inr h
  have hS : va_S A s₀.heap s₀.heap [] := va_S.rf
  have hP : va_P (dC, dI) vwCl [(kX12 hm vFo vSi vIt vMo la vBy vTy mi vMi pn vPs gn vGs fn vFt le vTo kn fe en ca an co vPr vSt vFn sn vSg vAl dr), (kAI vFo cI 4 qFo), (kAI vSi cI 4 qSi), (kAI vIt cI 240 qIt), (kAI vMo cI 60 qMv)] s₀.heap := hP
  have hl := lv_entry ([.ref hm, .int ss, .int i1, .int s2, .int j1, .int nn]) (n := 7) (Nat.le_of_ble_eq_true rfl)
  rw [lg_entry_eq]
  generalize (lg_sl ([.ref hm, .int ss, .int i1, .int s2, .int j1, .int nn]) ++ List.replicate (7 - (lg_sl ([.ref hm, .int ss, .int i1, .int s2, .int j1, .int nn])).length) Slot.unset).toArray = ls at hl ⊢
  have hl : lv_has ls 7 [(0, .ref hm), (1, .int ss), (2, .int i1), (3, .int s2), (4, .int j1), (5, .int nn)] := hl
  obtain ⟨H, hH⟩ : ∃ z : Heap, z = s₀.heap := ⟨_, rfl⟩
  rw [← hH] at hP
  have hS : va_S A s₀.heap H [] := by rw [hH]; exact hS
  refine k_heap hH ?_
  have hD : va_D A [(kX12 hm vFo vSi vIt vMo la vBy vTy mi vMi pn vPs gn vGs fn vFt le vTo kn fe en ca an co vPr vSt vFn sn vSg vAl dr), (kAI vFo cI 4 qFo), (kAI vSi cI 4 qSi), (kAI vIt cI 240 qIt), (kAI vMo cI 60 qMv)] := hD
  obtain ⟨locs, hlo⟩ : ∃ z : List Loc, z = [] := ⟨_, rfl⟩
  rw [← hlo] at hS ⊢
  clear hlo hH hAe hD0
  refine lv_iload_n hx₀ hb dX12_copy_0 rfl (lv_at hl 1 rfl) ?_
  obtain ⟨hPc, hDc, hFc, hC⟩ := k_cw (wc := []) hP hD hS hA [] (by decide +kernel) rfl
  refine va_calli (va_runS (As := [.int ss]) (rest := []) ⟨hx₀, hb, hml, hown, hts⟩ (c_isSheet l dC dI cI cJ cQ H.size ss) (va_cwS 1 hts (kGS wd_400 wd_398 wd_399 wd_5) rfl rfl rfl (by decide +kernel) ⟨Nat.le_of_ble_eq_true rfl, Nat.le_of_ble_eq_true rfl⟩) (k_preS hK hPc hDc hN) rfl rfl hl.1 rfl (lv_room (Nat.le_of_ble_eq_true rfl)) dX12_copy_1 ⟨by decide +kernel, by decide +kernel⟩) hS (fun q _ h => hFc q h) hFc (fun r_1 u₀ t₀ H1 locs ht hvm hw hB hz1 hk1 hS => ?_)
  obtain ⟨hP1, hK1, hD1⟩ := hB
  rw [ht] at hP1
  have hJ := k_jn (wr := [(kX12 hm vFo vSi vIt vMo la vBy vTy mi vMi pn vPs gn vGs fn vFt le vTo kn fe en ca an co vPr vSt vFn sn vSg vAl dr), (kAI vFo cI 4 qFo), (kAI vSi cI 4 qSi), (kAI vIt cI 240 qIt), (kAI vMo cI 60 qMv)]) (wt := [(kX12 hm vFo vSi vIt vMo la vBy vTy mi vMi pn vPs gn vGs fn vFt le vTo kn fe en ca an co vPr vSt vFn sn vSg vAl dr), (kAI vFo cI 4 qFo), (kAI vSi cI 4 qSi), (kAI vIt cI 240 qIt), (kAI vMo cI 60 qMv)]) hP hD hC [0, 1, 2, 3, 4] rfl (by decide +kernel) (by decide +kernel) hk1 hFc hP1 hD1 rfl
  clear hP hD hPc hDc hFc hC hP1 hD1 hK1 hz1 hk1 hvm ht
  obtain ⟨hP, hD⟩ := hJ
  generalize H1 = H at hP hS ⊢
  try dsimp only at hw
  by_cases c_2 : 0 ≤ ss ∧ ss ≤ 3
  · rw [if_pos c_2] at hw
    refine k_topi (v := 1) hw ?_
    refine lv_if_eq (tgt := 14) hx₀ hb dX12_copy_4 (by decide) (fun c9 => absurd c9 (by decide +kernel)) (fun _ => ?_)
    refine lv_iload_n hx₀ hb dX12_copy_7 rfl (lv_at hl 3 rfl) ?_
    obtain ⟨hPc, hDc, hFc, hC⟩ := k_cw (wc := []) hP hD hS hA [] (by decide +kernel) rfl
    refine va_calli (va_runS (As := [.int s2]) (rest := []) ⟨hx₀, hb, hml, hown, hts⟩ (c_isSheet l dC dI cI cJ cQ H.size s2) (va_cwS 1 hts (kGS wd_400 wd_398 wd_399 wd_5) rfl rfl rfl (by decide +kernel) ⟨Nat.le_of_ble_eq_true rfl, Nat.le_of_ble_eq_true rfl⟩) (k_preS hK hPc hDc hN) rfl rfl hl.1 rfl (lv_room (Nat.le_of_ble_eq_true rfl)) dX12_copy_8 ⟨by decide +kernel, by decide +kernel⟩) hS (fun q _ h => hFc q h) hFc (fun r_3 u₀ t₀ H1 locs ht hvm hw hB hz1 hk1 hS => ?_)
    obtain ⟨hP1, hK1, hD1⟩ := hB
    rw [ht] at hP1
    have hJ := k_jn (wr := [(kX12 hm vFo vSi vIt vMo la vBy vTy mi vMi pn vPs gn vGs fn vFt le vTo kn fe en ca an co vPr vSt vFn sn vSg vAl dr), (kAI vFo cI 4 qFo), (kAI vSi cI 4 qSi), (kAI vIt cI 240 qIt), (kAI vMo cI 60 qMv)]) (wt := [(kX12 hm vFo vSi vIt vMo la vBy vTy mi vMi pn vPs gn vGs fn vFt le vTo kn fe en ca an co vPr vSt vFn sn vSg vAl dr), (kAI vFo cI 4 qFo), (kAI vSi cI 4 qSi), (kAI vIt cI 240 qIt), (kAI vMo cI 60 qMv)]) hP hD hC [0, 1, 2, 3, 4] rfl (by decide +kernel) (by decide +kernel) hk1 hFc hP1 hD1 rfl
    clear hP hD hPc hDc hFc hC hP1 hD1 hK1 hz1 hk1 hvm ht
    obtain ⟨hP, hD⟩ := hJ
    generalize H1 = H at hP hS ⊢
    try dsimp only at hw
    by_cases c_4 : 0 ≤ s2 ∧ s2 ≤ 3
    · rw [if_pos c_4] at hw
      refine k_topi (v := 1) hw ?_
      refine lv_if_ne (tgt := 17) hx₀ hb dX12_copy_11 (by decide) (fun _ => ?_) (fun c9 => absurd c9 (by decide +kernel))
      refine lv_aload_n hx₀ hb dX12_copy_17 rfl (lv_at hl 0 rfl) ?_
      refine va_get (D := (dC, dI)) (ci := 11) (v := .ref vFo) (C := RX12) (T := TX12) (N := 30) hx₀ hb hts inlX12 hown hK hP 0 rfl rfl 0 (by decide) (hts (.fieldLink RX12 7 "BittenStickModel" "forms" "[I") wd_115) (fun _ h9 => h9) rfl dX12_copy_18 ?_
      refine lv_iload_n hx₀ hb dX12_copy_21 rfl (lv_at hl 1 rfl) ?_
      refine va_iald hx₀ hb hK hP 1 0 rfl rfl (vp_in_iff.mpr (lf_g_sheet_1 ss c_2)) dX12_copy_22 ?_
      refine lv_topi (fun y_5 ey_5 => ?_)
      refine lv_if_lt (tgt := 35) hx₀ hb dX12_copy_23 (by decide) (fun c_6 => ?_) (fun c_6 => ?_)
      · refine lv_aload_n hx₀ hb dX12_copy_35 rfl (lv_at hl 0 rfl) ?_
        refine lv_iconst (v := 1) hx₀ hb dX12_copy_36 (by decide +kernel) ?_
        obtain ⟨hPc, hDc, hFc, hC⟩ := k_cw (wc := [(kX12 hm vFo vSi vIt vMo la vBy vTy mi vMi pn vPs gn vGs fn vFt le vTo kn fe en ca an co vPr vSt vFn sn vSg vAl dr)]) hP hD hS hA [0] (by decide +kernel) rfl
        refine va_calli (va_runV (As := [.int 1]) (rest := []) ⟨hx₀, hb, hml, hown, hts⟩ (g_finds1 l dC dI cI cJ cQ H.size hm vFo vSi vIt vMo la vBy vTy mi vMi pn vPs gn vGs fn vFt le vTo kn fe en ca an co vPr vSt vFn sn vSg vAl dr) (cwV 1 hts (kGV wd_404 wd_401 wd_402 wd_403 wd_5) rfl rfl rfl (by decide +kernel) ⟨Nat.le_of_ble_eq_true rfl, Nat.le_of_ble_eq_true rfl⟩) (k_preV11 (q0 := 0) hK hPc hDc hN rfl) rfl rfl hl.1 rfl (lv_room (Nat.le_of_ble_eq_true rfl)) dX12_copy_37 ⟨by decide +kernel, by decide +kernel⟩) hS (fun q _ h => hFc q h) hFc (fun r_7 u₀ t₀ H1 locs ht hvm hw hB hz1 hk1 hS => ?_)
        obtain ⟨hP1, hK1, hD1⟩ := hB
        rw [ht] at hP1
        have hJ := k_jn (wr := [(kAI vFo cI 4 qFo), (kAI vSi cI 4 qSi), (kAI vIt cI 240 qIt), (kAI vMo cI 60 qMv)]) (wt := [(kAI vFo cI 4 qFo), (kAI vSi cI 4 qSi), (kAI vIt cI 240 qIt), (kAI vMo cI 60 qMv), (kX12 hm vFo vSi vIt vMo 1 vBy vTy mi vMi pn vPs gn vGs fn vFt le vTo kn fe en ca an co vPr vSt vFn sn vSg vAl dr)]) hP hD hC [1, 2, 3, 4] rfl (by decide +kernel) (by decide +kernel) hk1 hFc hP1 hD1 rfl
        clear hP hD hPc hDc hFc hC hP1 hD1 hK1 hz1 hk1 hvm ht
        obtain ⟨hP, hD⟩ := hJ
        generalize H1 = H at hP hS ⊢
        try dsimp only at hw
        refine k_topi (v := (-11)) hw ?_
        obtain ⟨hP9, hD9⟩ := k_c2 (wc := [(kX12 hm vFo vSi vIt vMo 1 vBy vTy mi vMi pn vPs gn vGs fn vFt le vTo kn fe en ca an co vPr vSt vFn sn vSg vAl dr), (kAI vFo cI 4 qFo), (kAI vSi cI 4 qSi), (kAI vIt cI 240 qIt), (kAI vMo cI 60 qMv)]) hP hD [4, 0, 1, 2, 3] (by decide +kernel) rfl
        exact W.iret (v := (-11)) hx₀ hb hr (fun t₀ ht hW => ⟨⟨(-11), (k_fn [(1 : Int32)], k_fa [qIt, qMv], k_fl [], k_fL [], k_fp []), rfl, ⟨(by rewrite [← ey_5]; exact (((if_neg (show ¬ (¬ y_5 < 0 ∧ ¬ (qFo s2.toNatClampNeg) < 0) from (fun z => (fun z => z c_6) z.1))).symm).trans (if_pos (show 0 ≤ ss ∧ ss ≤ 3 ∧ 0 ≤ s2 ∧ s2 ≤ 3 from ⟨c_2.1, c_2.2, c_4.1, c_4.2⟩)).symm)), kFd_11.symm, (if_neg (by rewrite [← ey_5]; exact (fun z => (fun z => z c_6) z.2.2.2.2.1))).symm, (fun q => absurd q (by rewrite [← ey_5]; exact (fun z => (fun z => z c_6) z.2.2.2.2.1)))⟩, by rw [ht]; exact hP9, va_K.moved hW.alike hK, hD9⟩, hS.F ht⟩) hS.2.2 dX12_copy_40
      · refine lv_aload_n hx₀ hb dX12_copy_26 rfl (lv_at hl 0 rfl) ?_
        refine va_get (D := (dC, dI)) (ci := 11) (v := .ref vFo) (C := RX12) (T := TX12) (N := 30) hx₀ hb hts inlX12 hown hK hP 0 rfl rfl 0 (by decide) (hts (.fieldLink RX12 7 "BittenStickModel" "forms" "[I") wd_115) (fun _ h9 => h9) rfl dX12_copy_27 ?_
        refine lv_iload_n hx₀ hb dX12_copy_30 rfl (lv_at hl 3 rfl) ?_
        refine va_iald hx₀ hb hK hP 1 0 rfl rfl (vp_in_iff.mpr (lf_g_sheet_1 s2 c_4)) dX12_copy_31 ?_
        refine lv_topi (fun y_8 ey_8 => ?_)
        refine lv_if_ge (tgt := 41) hx₀ hb dX12_copy_32 (by decide) (fun c_9 => ?_) (fun c_9 => ?_)
        · refine lv_aload_n hx₀ hb dX12_copy_41 rfl (lv_at hl 0 rfl) ?_
          refine va_get (D := (dC, dI)) (ci := 11) (v := .ref vFo) (C := RX12) (T := TX12) (N := 30) hx₀ hb hts inlX12 hown hK hP 0 rfl rfl 0 (by decide) (hts (.fieldLink RX12 7 "BittenStickModel" "forms" "[I") wd_115) (fun _ h9 => h9) rfl dX12_copy_42 ?_
          refine lv_iload_n hx₀ hb dX12_copy_45 rfl (lv_at hl 1 rfl) ?_
          refine va_iald hx₀ hb hK hP 1 0 rfl rfl (vp_in_iff.mpr (lf_g_sheet_1 ss c_2)) dX12_copy_46 ?_
          refine k_topi (v := y_5) ey_5.symm ?_
          refine lv_aload_n hx₀ hb dX12_copy_47 rfl (lv_at hl 0 rfl) ?_
          refine va_get (D := (dC, dI)) (ci := 11) (v := .ref vFo) (C := RX12) (T := TX12) (N := 30) hx₀ hb hts inlX12 hown hK hP 0 rfl rfl 0 (by decide) (hts (.fieldLink RX12 7 "BittenStickModel" "forms" "[I") wd_115) (fun _ h9 => h9) rfl dX12_copy_48 ?_
          refine lv_iload_n hx₀ hb dX12_copy_51 rfl (lv_at hl 3 rfl) ?_
          refine va_iald hx₀ hb hK hP 1 0 rfl rfl (vp_in_iff.mpr (lf_g_sheet_1 s2 c_4)) dX12_copy_52 ?_
          refine k_topi (v := y_8) ey_8.symm ?_
          refine lv_icmp_eq (tgt := 62) hx₀ hb dX12_copy_53 (by decide) (fun c_10 => ?_) (fun c_10 => ?_)
          · refine lv_iload_n hx₀ hb dX12_copy_62 rfl (lv_at hl 2 rfl) ?_
            refine lv_if_lt (tgt := 111) hx₀ hb dX12_copy_63 (by decide) (fun c_11 => ?_) (fun c_11 => ?_)
            · refine lv_aload_n hx₀ hb dX12_copy_111 rfl (lv_at hl 0 rfl) ?_
              refine lv_iconst (v := 2) hx₀ hb dX12_copy_112 (by decide +kernel) ?_
              obtain ⟨hPc, hDc, hFc, hC⟩ := k_cw (wc := [(kX12 hm vFo vSi vIt vMo la vBy vTy mi vMi pn vPs gn vGs fn vFt le vTo kn fe en ca an co vPr vSt vFn sn vSg vAl dr)]) hP hD hS hA [0] (by decide +kernel) rfl
              refine va_calli (va_runV (As := [.int 2]) (rest := []) ⟨hx₀, hb, hml, hown, hts⟩ (g_finds2 l dC dI cI cJ cQ H.size hm vFo vSi vIt vMo la vBy vTy mi vMi pn vPs gn vGs fn vFt le vTo kn fe en ca an co vPr vSt vFn sn vSg vAl dr) (cwV 1 hts (kGV wd_404 wd_401 wd_402 wd_403 wd_5) rfl rfl rfl (by decide +kernel) ⟨Nat.le_of_ble_eq_true rfl, Nat.le_of_ble_eq_true rfl⟩) (k_preV11 (q0 := 0) hK hPc hDc hN rfl) rfl rfl hl.1 rfl (lv_room (Nat.le_of_ble_eq_true rfl)) dX12_copy_113 ⟨by decide +kernel, by decide +kernel⟩) hS (fun q _ h => hFc q h) hFc (fun r_12 u₀ t₀ H1 locs ht hvm hw hB hz1 hk1 hS => ?_)
              obtain ⟨hP1, hK1, hD1⟩ := hB
              rw [ht] at hP1
              have hJ := k_jn (wr := [(kAI vFo cI 4 qFo), (kAI vSi cI 4 qSi), (kAI vIt cI 240 qIt), (kAI vMo cI 60 qMv)]) (wt := [(kAI vFo cI 4 qFo), (kAI vSi cI 4 qSi), (kAI vIt cI 240 qIt), (kAI vMo cI 60 qMv), (kX12 hm vFo vSi vIt vMo 2 vBy vTy mi vMi pn vPs gn vGs fn vFt le vTo kn fe en ca an co vPr vSt vFn sn vSg vAl dr)]) hP hD hC [1, 2, 3, 4] rfl (by decide +kernel) (by decide +kernel) hk1 hFc hP1 hD1 rfl
              clear hP hD hPc hDc hFc hC hP1 hD1 hK1 hz1 hk1 hvm ht
              obtain ⟨hP, hD⟩ := hJ
              generalize H1 = H at hP hS ⊢
              try dsimp only at hw
              refine k_topi (v := (-12)) hw ?_
              obtain ⟨hP9, hD9⟩ := k_c2 (wc := [(kX12 hm vFo vSi vIt vMo 2 vBy vTy mi vMi pn vPs gn vGs fn vFt le vTo kn fe en ca an co vPr vSt vFn sn vSg vAl dr), (kAI vFo cI 4 qFo), (kAI vSi cI 4 qSi), (kAI vIt cI 240 qIt), (kAI vMo cI 60 qMv)]) hP hD [4, 0, 1, 2, 3] (by decide +kernel) rfl
              exact W.iret (v := (-12)) hx₀ hb hr (fun t₀ ht hW => ⟨⟨(-12), (k_fn [(2 : Int32)], k_fa [qIt, qMv], k_fl [], k_fL [], k_fp []), rfl, ⟨(by rewrite [← ey_5, ← ey_8]; exact (((((((if_neg (show ¬ (0 ≤ i1 ∧ 0 ≤ j1 ∧ 0 ≤ nn ∧ i1.toInt + nn.toInt ≤ ((qSi ss.toNatClampNeg)).toInt ∧ j1.toInt + nn.toInt ≤ ((qSi s2.toNatClampNeg)).toInt) from (fun z => (Int32.not_le.mpr c_11) z.1))).symm).trans (if_pos (c_10)).symm)).trans (if_pos (show ¬ y_5 < 0 ∧ ¬ y_8 < 0 from ⟨c_6, (Int32.not_lt.mpr c_9)⟩)).symm)).trans (if_pos (show 0 ≤ ss ∧ ss ≤ 3 ∧ 0 ≤ s2 ∧ s2 ≤ 3 from ⟨c_2.1, c_2.2, c_4.1, c_4.2⟩)).symm)), kFd_12.symm, (if_neg (by rewrite [← ey_5, ← ey_8]; exact (fun z => (Int32.not_le.mpr c_11) z.2.2.2.2.2.2.2.1))).symm, (fun q => absurd q (by rewrite [← ey_5, ← ey_8]; exact (fun z => (Int32.not_le.mpr c_11) z.2.2.2.2.2.2.2.1)))⟩, by rw [ht]; exact hP9, va_K.moved hW.alike hK, hD9⟩, hS.F ht⟩) hS.2.2 dX12_copy_116
            · refine lv_iload hx₀ hb dX12_copy_66 (lv_at hl 4 rfl) ?_
              refine lv_if_lt (tgt := 111) hx₀ hb dX12_copy_68 (by decide) (fun c_13 => ?_) (fun c_13 => ?_)
              · refine lv_aload_n hx₀ hb dX12_copy_111 rfl (lv_at hl 0 rfl) ?_
                refine lv_iconst (v := 2) hx₀ hb dX12_copy_112 (by decide +kernel) ?_
                obtain ⟨hPc, hDc, hFc, hC⟩ := k_cw (wc := [(kX12 hm vFo vSi vIt vMo la vBy vTy mi vMi pn vPs gn vGs fn vFt le vTo kn fe en ca an co vPr vSt vFn sn vSg vAl dr)]) hP hD hS hA [0] (by decide +kernel) rfl
                refine va_calli (va_runV (As := [.int 2]) (rest := []) ⟨hx₀, hb, hml, hown, hts⟩ (g_finds2 l dC dI cI cJ cQ H.size hm vFo vSi vIt vMo la vBy vTy mi vMi pn vPs gn vGs fn vFt le vTo kn fe en ca an co vPr vSt vFn sn vSg vAl dr) (cwV 1 hts (kGV wd_404 wd_401 wd_402 wd_403 wd_5) rfl rfl rfl (by decide +kernel) ⟨Nat.le_of_ble_eq_true rfl, Nat.le_of_ble_eq_true rfl⟩) (k_preV11 (q0 := 0) hK hPc hDc hN rfl) rfl rfl hl.1 rfl (lv_room (Nat.le_of_ble_eq_true rfl)) dX12_copy_113 ⟨by decide +kernel, by decide +kernel⟩) hS (fun q _ h => hFc q h) hFc (fun r_14 u₀ t₀ H1 locs ht hvm hw hB hz1 hk1 hS => ?_)
                obtain ⟨hP1, hK1, hD1⟩ := hB
                rw [ht] at hP1
                have hJ := k_jn (wr := [(kAI vFo cI 4 qFo), (kAI vSi cI 4 qSi), (kAI vIt cI 240 qIt), (kAI vMo cI 60 qMv)]) (wt := [(kAI vFo cI 4 qFo), (kAI vSi cI 4 qSi), (kAI vIt cI 240 qIt), (kAI vMo cI 60 qMv), (kX12 hm vFo vSi vIt vMo 2 vBy vTy mi vMi pn vPs gn vGs fn vFt le vTo kn fe en ca an co vPr vSt vFn sn vSg vAl dr)]) hP hD hC [1, 2, 3, 4] rfl (by decide +kernel) (by decide +kernel) hk1 hFc hP1 hD1 rfl
                clear hP hD hPc hDc hFc hC hP1 hD1 hK1 hz1 hk1 hvm ht
                obtain ⟨hP, hD⟩ := hJ
                generalize H1 = H at hP hS ⊢
                try dsimp only at hw
                refine k_topi (v := (-12)) hw ?_
                obtain ⟨hP9, hD9⟩ := k_c2 (wc := [(kX12 hm vFo vSi vIt vMo 2 vBy vTy mi vMi pn vPs gn vGs fn vFt le vTo kn fe en ca an co vPr vSt vFn sn vSg vAl dr), (kAI vFo cI 4 qFo), (kAI vSi cI 4 qSi), (kAI vIt cI 240 qIt), (kAI vMo cI 60 qMv)]) hP hD [4, 0, 1, 2, 3] (by decide +kernel) rfl
                exact W.iret (v := (-12)) hx₀ hb hr (fun t₀ ht hW => ⟨⟨(-12), (k_fn [(2 : Int32)], k_fa [qIt, qMv], k_fl [], k_fL [], k_fp []), rfl, ⟨(by rewrite [← ey_5, ← ey_8]; exact (((((((if_neg (show ¬ (0 ≤ i1 ∧ 0 ≤ j1 ∧ 0 ≤ nn ∧ i1.toInt + nn.toInt ≤ ((qSi ss.toNatClampNeg)).toInt ∧ j1.toInt + nn.toInt ≤ ((qSi s2.toNatClampNeg)).toInt) from (fun z => (Int32.not_le.mpr c_13) z.2.1))).symm).trans (if_pos (c_10)).symm)).trans (if_pos (show ¬ y_5 < 0 ∧ ¬ y_8 < 0 from ⟨c_6, (Int32.not_lt.mpr c_9)⟩)).symm)).trans (if_pos (show 0 ≤ ss ∧ ss ≤ 3 ∧ 0 ≤ s2 ∧ s2 ≤ 3 from ⟨c_2.1, c_2.2, c_4.1, c_4.2⟩)).symm)), kFd_12.symm, (if_neg (by rewrite [← ey_5, ← ey_8]; exact (fun z => (Int32.not_le.mpr c_13) z.2.2.2.2.2.2.2.2.1))).symm, (fun q => absurd q (by rewrite [← ey_5, ← ey_8]; exact (fun z => (Int32.not_le.mpr c_13) z.2.2.2.2.2.2.2.2.1)))⟩, by rw [ht]; exact hP9, va_K.moved hW.alike hK, hD9⟩, hS.F ht⟩) hS.2.2 dX12_copy_116
              · refine lv_iload hx₀ hb dX12_copy_71 (lv_at hl 5 rfl) ?_
                refine lv_if_lt (tgt := 111) hx₀ hb dX12_copy_73 (by decide) (fun c_15 => ?_) (fun c_15 => ?_)
                · refine lv_aload_n hx₀ hb dX12_copy_111 rfl (lv_at hl 0 rfl) ?_
                  refine lv_iconst (v := 2) hx₀ hb dX12_copy_112 (by decide +kernel) ?_
                  obtain ⟨hPc, hDc, hFc, hC⟩ := k_cw (wc := [(kX12 hm vFo vSi vIt vMo la vBy vTy mi vMi pn vPs gn vGs fn vFt le vTo kn fe en ca an co vPr vSt vFn sn vSg vAl dr)]) hP hD hS hA [0] (by decide +kernel) rfl
                  refine va_calli (va_runV (As := [.int 2]) (rest := []) ⟨hx₀, hb, hml, hown, hts⟩ (g_finds2 l dC dI cI cJ cQ H.size hm vFo vSi vIt vMo la vBy vTy mi vMi pn vPs gn vGs fn vFt le vTo kn fe en ca an co vPr vSt vFn sn vSg vAl dr) (cwV 1 hts (kGV wd_404 wd_401 wd_402 wd_403 wd_5) rfl rfl rfl (by decide +kernel) ⟨Nat.le_of_ble_eq_true rfl, Nat.le_of_ble_eq_true rfl⟩) (k_preV11 (q0 := 0) hK hPc hDc hN rfl) rfl rfl hl.1 rfl (lv_room (Nat.le_of_ble_eq_true rfl)) dX12_copy_113 ⟨by decide +kernel, by decide +kernel⟩) hS (fun q _ h => hFc q h) hFc (fun r_16 u₀ t₀ H1 locs ht hvm hw hB hz1 hk1 hS => ?_)
                  obtain ⟨hP1, hK1, hD1⟩ := hB
                  rw [ht] at hP1
                  have hJ := k_jn (wr := [(kAI vFo cI 4 qFo), (kAI vSi cI 4 qSi), (kAI vIt cI 240 qIt), (kAI vMo cI 60 qMv)]) (wt := [(kAI vFo cI 4 qFo), (kAI vSi cI 4 qSi), (kAI vIt cI 240 qIt), (kAI vMo cI 60 qMv), (kX12 hm vFo vSi vIt vMo 2 vBy vTy mi vMi pn vPs gn vGs fn vFt le vTo kn fe en ca an co vPr vSt vFn sn vSg vAl dr)]) hP hD hC [1, 2, 3, 4] rfl (by decide +kernel) (by decide +kernel) hk1 hFc hP1 hD1 rfl
                  clear hP hD hPc hDc hFc hC hP1 hD1 hK1 hz1 hk1 hvm ht
                  obtain ⟨hP, hD⟩ := hJ
                  generalize H1 = H at hP hS ⊢
                  try dsimp only at hw
                  refine k_topi (v := (-12)) hw ?_
                  obtain ⟨hP9, hD9⟩ := k_c2 (wc := [(kX12 hm vFo vSi vIt vMo 2 vBy vTy mi vMi pn vPs gn vGs fn vFt le vTo kn fe en ca an co vPr vSt vFn sn vSg vAl dr), (kAI vFo cI 4 qFo), (kAI vSi cI 4 qSi), (kAI vIt cI 240 qIt), (kAI vMo cI 60 qMv)]) hP hD [4, 0, 1, 2, 3] (by decide +kernel) rfl
                  exact W.iret (v := (-12)) hx₀ hb hr (fun t₀ ht hW => ⟨⟨(-12), (k_fn [(2 : Int32)], k_fa [qIt, qMv], k_fl [], k_fL [], k_fp []), rfl, ⟨(by rewrite [← ey_5, ← ey_8]; exact (((((((if_neg (show ¬ (0 ≤ i1 ∧ 0 ≤ j1 ∧ 0 ≤ nn ∧ i1.toInt + nn.toInt ≤ ((qSi ss.toNatClampNeg)).toInt ∧ j1.toInt + nn.toInt ≤ ((qSi s2.toNatClampNeg)).toInt) from (fun z => (Int32.not_le.mpr c_15) z.2.2.1))).symm).trans (if_pos (c_10)).symm)).trans (if_pos (show ¬ y_5 < 0 ∧ ¬ y_8 < 0 from ⟨c_6, (Int32.not_lt.mpr c_9)⟩)).symm)).trans (if_pos (show 0 ≤ ss ∧ ss ≤ 3 ∧ 0 ≤ s2 ∧ s2 ≤ 3 from ⟨c_2.1, c_2.2, c_4.1, c_4.2⟩)).symm)), kFd_12.symm, (if_neg (by rewrite [← ey_5, ← ey_8]; exact (fun z => (Int32.not_le.mpr c_15) z.2.2.2.2.2.2.2.2.2.1))).symm, (fun q => absurd q (by rewrite [← ey_5, ← ey_8]; exact (fun z => (Int32.not_le.mpr c_15) z.2.2.2.2.2.2.2.2.2.1)))⟩, by rw [ht]; exact hP9, va_K.moved hW.alike hK, hD9⟩, hS.F ht⟩) hS.2.2 dX12_copy_116
                · refine lv_iload_n hx₀ hb dX12_copy_76 rfl (lv_at hl 2 rfl) ?_
                  refine lv_i2l hx₀ hb dX12_copy_77 rfl ?_
                  refine lv_iload hx₀ hb dX12_copy_78 (lv_at hl 5 rfl) ?_
                  refine lv_i2l hx₀ hb dX12_copy_80 rfl ?_
                  refine lv_ladd hx₀ hb dX12_copy_81 ?_
                  refine lv_aload_n hx₀ hb dX12_copy_82 rfl (lv_at hl 0 rfl) ?_
                  refine va_get (D := (dC, dI)) (ci := 11) (v := .ref vSi) (C := RX12) (T := TX12) (N := 30) hx₀ hb hts inlX12 hown hK hP 0 rfl rfl 1 (by decide) (hts (.fieldLink RX12 13 "BittenStickModel" "sizes" "[I") wd_116) (fun _ h9 => h9) rfl dX12_copy_83 ?_
                  refine lv_iload_n hx₀ hb dX12_copy_86 rfl (lv_at hl 1 rfl) ?_
                  refine va_iald hx₀ hb hK hP 2 0 rfl rfl (vp_in_iff.mpr (lf_g_sheet_1 ss c_2)) dX12_copy_87 ?_
                  refine lv_topi (fun y_17 ey_17 => ?_)
                  have c_18 : 0 ≤ y_17.toInt ∧ y_17.toInt ≤ 60 := by rw [ey_17]; exact k_bd_at hh0 (vp_in_iff.mpr (lf_g_sheet_1 ss c_2))
                  refine lv_i2l hx₀ hb dX12_copy_88 rfl ?_
                  refine W.lcmp hx₀ hb dX12_copy_89 ?_
                  refine lv_if_gt (tgt := 111) hx₀ hb dX12_copy_90 (by decide) (fun c_19 => ?_) (fun c_19 => ?_)
                  · refine lv_aload_n hx₀ hb dX12_copy_111 rfl (lv_at hl 0 rfl) ?_
                    refine lv_iconst (v := 2) hx₀ hb dX12_copy_112 (by decide +kernel) ?_
                    obtain ⟨hPc, hDc, hFc, hC⟩ := k_cw (wc := [(kX12 hm vFo vSi vIt vMo la vBy vTy mi vMi pn vPs gn vGs fn vFt le vTo kn fe en ca an co vPr vSt vFn sn vSg vAl dr)]) hP hD hS hA [0] (by decide +kernel) rfl
                    refine va_calli (va_runV (As := [.int 2]) (rest := []) ⟨hx₀, hb, hml, hown, hts⟩ (g_finds2 l dC dI cI cJ cQ H.size hm vFo vSi vIt vMo la vBy vTy mi vMi pn vPs gn vGs fn vFt le vTo kn fe en ca an co vPr vSt vFn sn vSg vAl dr) (cwV 1 hts (kGV wd_404 wd_401 wd_402 wd_403 wd_5) rfl rfl rfl (by decide +kernel) ⟨Nat.le_of_ble_eq_true rfl, Nat.le_of_ble_eq_true rfl⟩) (k_preV11 (q0 := 0) hK hPc hDc hN rfl) rfl rfl hl.1 rfl (lv_room (Nat.le_of_ble_eq_true rfl)) dX12_copy_113 ⟨by decide +kernel, by decide +kernel⟩) hS (fun q _ h => hFc q h) hFc (fun r_20 u₀ t₀ H1 locs ht hvm hw hB hz1 hk1 hS => ?_)
                    obtain ⟨hP1, hK1, hD1⟩ := hB
                    rw [ht] at hP1
                    have hJ := k_jn (wr := [(kAI vFo cI 4 qFo), (kAI vSi cI 4 qSi), (kAI vIt cI 240 qIt), (kAI vMo cI 60 qMv)]) (wt := [(kAI vFo cI 4 qFo), (kAI vSi cI 4 qSi), (kAI vIt cI 240 qIt), (kAI vMo cI 60 qMv), (kX12 hm vFo vSi vIt vMo 2 vBy vTy mi vMi pn vPs gn vGs fn vFt le vTo kn fe en ca an co vPr vSt vFn sn vSg vAl dr)]) hP hD hC [1, 2, 3, 4] rfl (by decide +kernel) (by decide +kernel) hk1 hFc hP1 hD1 rfl
                    clear hP hD hPc hDc hFc hC hP1 hD1 hK1 hz1 hk1 hvm ht
                    obtain ⟨hP, hD⟩ := hJ
                    generalize H1 = H at hP hS ⊢
                    try dsimp only at hw
                    refine k_topi (v := (-12)) hw ?_
                    obtain ⟨hP9, hD9⟩ := k_c2 (wc := [(kX12 hm vFo vSi vIt vMo 2 vBy vTy mi vMi pn vPs gn vGs fn vFt le vTo kn fe en ca an co vPr vSt vFn sn vSg vAl dr), (kAI vFo cI 4 qFo), (kAI vSi cI 4 qSi), (kAI vIt cI 240 qIt), (kAI vMo cI 60 qMv)]) hP hD [4, 0, 1, 2, 3] (by decide +kernel) rfl
                    exact W.iret (v := (-12)) hx₀ hb hr (fun t₀ ht hW => ⟨⟨(-12), (k_fn [(2 : Int32)], k_fa [qIt, qMv], k_fl [], k_fL [], k_fp []), rfl, ⟨(by rewrite [← ey_5, ← ey_8, ← ey_17]; exact (((((((if_neg (lf_g_copy_1 i1 j1 nn y_17 (qSi s2.toNatClampNeg) c_11 c_13 c_15 c_18 c_19)).symm).trans (if_pos (c_10)).symm)).trans (if_pos (show ¬ y_5 < 0 ∧ ¬ y_8 < 0 from ⟨c_6, (Int32.not_lt.mpr c_9)⟩)).symm)).trans (if_pos (show 0 ≤ ss ∧ ss ≤ 3 ∧ 0 ≤ s2 ∧ s2 ≤ 3 from ⟨c_2.1, c_2.2, c_4.1, c_4.2⟩)).symm)), kFd_12.symm, (if_neg (by rewrite [← ey_5, ← ey_8, ← ey_17]; exact lf_g_copy_2 ss s2 y_5 y_8 i1 j1 nn y_17 (qSi s2.toNatClampNeg) c_2 c_4 c_6 c_9 c_10 c_11 c_13 c_15 c_18 c_19)).symm, (fun q => absurd q (by rewrite [← ey_5, ← ey_8, ← ey_17]; exact lf_g_copy_2 ss s2 y_5 y_8 i1 j1 nn y_17 (qSi s2.toNatClampNeg) c_2 c_4 c_6 c_9 c_10 c_11 c_13 c_15 c_18 c_19))⟩, by rw [ht]; exact hP9, va_K.moved hW.alike hK, hD9⟩, hS.F ht⟩) hS.2.2 dX12_copy_116
                  · refine lv_iload hx₀ hb dX12_copy_93 (lv_at hl 4 rfl) ?_
                    refine lv_i2l hx₀ hb dX12_copy_95 rfl ?_
                    refine lv_iload hx₀ hb dX12_copy_96 (lv_at hl 5 rfl) ?_
                    refine lv_i2l hx₀ hb dX12_copy_98 rfl ?_
                    refine lv_ladd hx₀ hb dX12_copy_99 ?_
                    refine lv_aload_n hx₀ hb dX12_copy_100 rfl (lv_at hl 0 rfl) ?_
                    refine va_get (D := (dC, dI)) (ci := 11) (v := .ref vSi) (C := RX12) (T := TX12) (N := 30) hx₀ hb hts inlX12 hown hK hP 0 rfl rfl 1 (by decide) (hts (.fieldLink RX12 13 "BittenStickModel" "sizes" "[I") wd_116) (fun _ h9 => h9) rfl dX12_copy_101 ?_
                    refine lv_iload_n hx₀ hb dX12_copy_104 rfl (lv_at hl 3 rfl) ?_
                    refine va_iald hx₀ hb hK hP 2 0 rfl rfl (vp_in_iff.mpr (lf_g_sheet_1 s2 c_4)) dX12_copy_105 ?_
                    refine lv_topi (fun y_21 ey_21 => ?_)
                    have c_22 : 0 ≤ y_21.toInt ∧ y_21.toInt ≤ 60 := by rw [ey_21]; exact k_bd_at hh0 (vp_in_iff.mpr (lf_g_sheet_1 s2 c_4))
                    refine lv_i2l hx₀ hb dX12_copy_106 rfl ?_
                    refine W.lcmp hx₀ hb dX12_copy_107 ?_
                    refine lv_if_le (tgt := 117) hx₀ hb dX12_copy_108 (by decide) (fun c_23 => ?_) (fun c_23 => ?_)
                    · refine lv_iconst (v := 0) hx₀ hb dX12_copy_117 (by decide +kernel) ?_
                      refine lv_istore (lv' := [(6, .int 0), (0, .ref hm), (1, .int ss), (2, .int i1), (3, .int s2), (4, .int j1), (5, .int nn)]) hx₀ hb dX12_copy_118 hl (by decide) rfl (fun ls hl => ?_)
                      refine (?keyz24 : ∀ (jz24 : Nat) (iz24 : Int32) (qmz24 : Nat → Int32) (H : Heap) (locs : List Loc) (ls : Array Slot), (0 ≤ iz24 ∧ iz24 ≤ nn) → (k_mv qIt qmz24 ss i1 iz24) → ((nn.toInt - iz24.toInt).toNat = jz24) → va_P (dC, dI) vwCl [(kX12 hm vFo vSi vIt vMo la vBy vTy mi vMi pn vPs gn vGs fn vFt le vTo kn fe en ca an co vPr vSt vFn sn vSg vAl dr), (kAI vFo cI 4 qFo), (kAI vSi cI 4 qSi), (kAI vIt cI 240 qIt), (kAI vMo cI 60 qmz24)] H → va_D A [(kX12 hm vFo vSi vIt vMo la vBy vTy mi vMi pn vPs gn vGs fn vFt le vTo kn fe en ca an co vPr vSt vFn sn vSg vAl dr), (kAI vFo cI 4 qFo), (kAI vSi cI 4 qSi), (kAI vIt cI 240 qIt), (kAI vMo cI 60 qmz24)] → va_S A s₀.heap H locs → lv_has ls 7 [(6, .int iz24), (0, .ref hm), (1, .int ss), (2, .int i1), (3, .int s2), (4, .int j1), (5, .int nn)] → W p₀ l e₀ _ s₀ m₀ _ below meth c₀ H locs _ _ _ (F0 m₀ 120 ls [])) _ (0 : Int32) _ H locs ls (show 0 ≤ (0 : Int32) ∧ (0 : Int32) ≤ nn from ⟨(by decide), (Int32.not_lt.mp c_15)⟩) (k_mv_0) rfl hP hD hS hl
                      clear hP hD hS hl
                      intro jz24
                      induction jz24 using Nat.strongRecOn with
                      | ind jz24 ihz24 =>
                        intro iz24 qmz24 H locs ls hiz24_0 hiz24_1 hjz24 hP hD hS hl
                        refine lv_iload hx₀ hb dX12_copy_120 (lv_at hl 0 rfl) ?_
                        refine lv_iload hx₀ hb dX12_copy_122 (lv_at hl 6 rfl) ?_
                        refine lv_icmp_ge (tgt := 154) hx₀ hb dX12_copy_124 (by decide) (fun c_25 => ?_) (fun c_25 => ?_)
                        · refine lv_iconst (v := 0) hx₀ hb dX12_copy_154 (by decide +kernel) ?_
                          refine lv_istore (lv' := [(6, .int 0), (0, .ref hm), (1, .int ss), (2, .int i1), (3, .int s2), (4, .int j1), (5, .int nn)]) hx₀ hb dX12_copy_155 hl (by decide) rfl (fun ls hl => ?_)
                          refine (?keyz26 : ∀ (jz26 : Nat) (iz26 : Int32) (qnz26 : Nat → Int32) (H : Heap) (locs : List Loc) (ls : Array Slot), (0 ≤ iz26 ∧ iz26 ≤ nn) → (qnz26 = kCq qIt qmz24 s2 j1 iz26) → ((nn.toInt - iz26.toInt).toNat = jz26) → va_P (dC, dI) vwCl [(kX12 hm vFo vSi vIt vMo la vBy vTy mi vMi pn vPs gn vGs fn vFt le vTo kn fe en ca an co vPr vSt vFn sn vSg vAl dr), (kAI vFo cI 4 qFo), (kAI vSi cI 4 qSi), (kAI vIt cI 240 qnz26), (kAI vMo cI 60 qmz24)] H → va_D A [(kX12 hm vFo vSi vIt vMo la vBy vTy mi vMi pn vPs gn vGs fn vFt le vTo kn fe en ca an co vPr vSt vFn sn vSg vAl dr), (kAI vFo cI 4 qFo), (kAI vSi cI 4 qSi), (kAI vIt cI 240 qnz26), (kAI vMo cI 60 qmz24)] → va_S A s₀.heap H locs → lv_has ls 7 [(6, .int iz26), (0, .ref hm), (1, .int ss), (2, .int i1), (3, .int s2), (4, .int j1), (5, .int nn)] → W p₀ l e₀ _ s₀ m₀ _ below meth c₀ H locs _ _ _ (F0 m₀ 157 ls [])) _ (0 : Int32) _ H locs ls (show 0 ≤ (0 : Int32) ∧ (0 : Int32) ≤ nn from ⟨(by decide), (Int32.not_lt.mp c_15)⟩) (kCq_0) rfl hP hD hS hl
                          clear hP hD hS hl
                          intro jz26
                          induction jz26 using Nat.strongRecOn with
                          | ind jz26 ihz26 =>
                            intro iz26 qnz26 H locs ls hiz26_0 hiz26_1 hjz26 hP hD hS hl
                            refine lv_iload hx₀ hb dX12_copy_157 (lv_at hl 0 rfl) ?_
                            refine lv_iload hx₀ hb dX12_copy_159 (lv_at hl 6 rfl) ?_
                            refine lv_icmp_ge (tgt := 192) hx₀ hb dX12_copy_161 (by decide) (fun c_27 => ?_) (fun c_27 => ?_)
                            · refine lv_iconst (v := 1) hx₀ hb dX12_copy_192 (by decide +kernel) ?_
                              obtain ⟨hP9, hD9⟩ := k_c2 (wc := [(kX12 hm vFo vSi vIt vMo la vBy vTy mi vMi pn vPs gn vGs fn vFt le vTo kn fe en ca an co vPr vSt vFn sn vSg vAl dr), (kAI vFo cI 4 qFo), (kAI vSi cI 4 qSi), (kAI vIt cI 240 qnz26), (kAI vMo cI 60 qmz24)]) hP hD [0, 1, 2, 3, 4] (by decide +kernel) rfl
                              exact W.iret (v := 1) hx₀ hb hr (fun t₀ ht hW => ⟨⟨1, (k_fn [la], k_fa [qnz26, qmz24], k_fl [], k_fL [], k_fp []), rfl, ⟨(by rewrite [← ey_5, ← ey_8, ← ey_17, ← ey_21]; exact (((((((if_pos (show 0 ≤ i1 ∧ 0 ≤ j1 ∧ 0 ≤ nn ∧ i1.toInt + nn.toInt ≤ (y_17).toInt ∧ j1.toInt + nn.toInt ≤ (y_21).toInt from ⟨(Int32.not_lt.mp c_11), (Int32.not_lt.mp c_13), (Int32.not_lt.mp c_15), (lf_g_copy_3 i1 j1 nn y_17 y_21 iz24 jz24 iz26 jz26 c_11 c_13 c_15 c_18 c_19 c_22 c_23 hiz24_0 hjz24 c_25 hiz26_0 hjz26 c_27), (lf_g_copy_4 i1 j1 nn y_17 y_21 iz24 jz24 iz26 jz26 c_11 c_13 c_15 c_18 c_19 c_22 c_23 hiz24_0 hjz24 c_25 hiz26_0 hjz26 c_27)⟩)).symm).trans (if_pos (c_10)).symm)).trans (if_pos (show ¬ y_5 < 0 ∧ ¬ y_8 < 0 from ⟨c_6, (Int32.not_lt.mpr c_9)⟩)).symm)).trans (if_pos (show 0 ≤ ss ∧ ss ≤ 3 ∧ 0 ≤ s2 ∧ s2 ≤ 3 from ⟨c_2.1, c_2.2, c_4.1, c_4.2⟩)).symm)), (kFd_ge (by decide)).symm, ((hiz26_1.trans (by rw [show iz26 = nn from show iz26 = nn from (Int32.le_antisymm hiz26_0.2 c_27)]; first | done | rfl)).trans (if_pos (by rewrite [← ey_5, ← ey_8, ← ey_17, ← ey_21]; exact lf_g_copy_5 ss s2 y_5 y_8 i1 j1 nn y_17 y_21 iz24 jz24 iz26 jz26 c_2 c_4 c_6 c_9 c_10 c_11 c_13 c_15 c_18 c_19 c_22 c_23 hiz24_0 hjz24 c_25 hiz26_0 hjz26 c_27)).symm), (fun _ => by rw [show nn = iz24 from show nn = iz24 from (Int32.le_antisymm c_25 hiz24_0.2)]; exact hiz24_1)⟩, by rw [ht]; exact hP9, va_K.moved hW.alike hK, hD9⟩, hS.F ht⟩) hS.2.2 dX12_copy_193
                            · refine lv_aload_n hx₀ hb dX12_copy_164 rfl (lv_at hl 1 rfl) ?_
                              refine va_get (D := (dC, dI)) (ci := 11) (v := .ref vIt) (C := RX12) (T := TX12) (N := 30) hx₀ hb hts inlX12 hown hK hP 0 rfl rfl 2 (by decide) (hts (.fieldLink RX12 16 "BittenStickModel" "items" "[I") wd_117) (fun _ h9 => h9) rfl dX12_copy_165 ?_
                              refine lv_bipush (v := 60) hx₀ hb dX12_copy_168 (by decide +kernel) ?_
                              refine lv_iload_n hx₀ hb dX12_copy_170 rfl (lv_at hl 4 rfl) ?_
                              refine lv_imul hx₀ hb dX12_copy_171 ?_
                              refine lv_iload hx₀ hb dX12_copy_172 (lv_at hl 5 rfl) ?_
                              refine lv_iadd hx₀ hb dX12_copy_174 ?_
                              refine lv_iload hx₀ hb dX12_copy_175 (lv_at hl 0 rfl) ?_
                              refine lv_iadd hx₀ hb dX12_copy_177 ?_
                              refine lv_aload_n hx₀ hb dX12_copy_178 rfl (lv_at hl 1 rfl) ?_
                              refine va_get (D := (dC, dI)) (ci := 11) (v := .ref vMo) (C := RX12) (T := TX12) (N := 30) hx₀ hb hts inlX12 hown hK hP 0 rfl rfl 3 (by decide) (hts (.fieldLink RX12 19 "BittenStickModel" "moved" "[I") wd_118) (fun _ h9 => h9) rfl dX12_copy_179 ?_
                              refine lv_iload hx₀ hb dX12_copy_182 (lv_at hl 0 rfl) ?_
                              refine va_iald hx₀ hb hK hP 4 0 rfl rfl (vp_in_iff.mpr (lf_g_copy_6 i1 j1 nn y_17 y_21 iz24 jz24 iz26 jz26 c_11 c_13 c_15 c_18 c_19 c_22 c_23 hiz24_0 hjz24 c_25 hiz26_0 hjz26 c_27)) dX12_copy_184 ?_
                              refine va_iast hx₀ hb hK hP hD hS 3 0 rfl rfl (vp_in_iff.mpr (lf_g_copy_7 s2 i1 j1 nn y_17 y_21 iz24 jz24 iz26 jz26 c_4 c_11 c_13 c_15 c_18 c_19 c_22 c_23 hiz24_0 hjz24 c_25 hiz26_0 hjz26 c_27)) dX12_copy_185 ?_
                              clear hP hD hS
                              intro H locs hP hD hS
                              replace hP := k_w2 (wt := [(kX12 hm vFo vSi vIt vMo la vBy vTy mi vMi pn vPs gn vGs fn vFt le vTo kn fe en ca an co vPr vSt vFn sn vSg vAl dr), (kAI vFo cI 4 qFo), (kAI vSi cI 4 qSi), (kAI vIt cI 240 (upd qnz26 (((60 * s2) + j1) + iz26).toNatClampNeg (qmz24 iz26.toNatClampNeg))), (kAI vMo cI 60 qmz24)]) hP hD rfl
                              replace hD := hP.2
                              replace hP := hP.1
                              refine lv_iinc (v := iz26 + 1) (lv' := [(6, .int (iz26 + 1)), (0, .ref hm), (1, .int ss), (2, .int i1), (3, .int s2), (4, .int j1), (5, .int nn)]) hx₀ hb dX12_copy_186 hl (k := 0) rfl rfl (by decide) rfl (fun ls hl => ?_)
                              refine lv_goto (tgt := 157) hx₀ hb dX12_copy_189 (by decide) ?_
                              exact ihz26 _ (lf_g_copy_11 i1 j1 nn y_17 y_21 iz24 jz24 iz26 jz26 c_11 c_13 c_15 c_18 c_19 c_22 c_23 hiz24_0 hjz24 c_25 hiz26_0 hjz26 c_27) (iz26 + 1) (upd qnz26 (((60 * s2) + j1) + iz26).toNatClampNeg (qmz24 iz26.toNatClampNeg)) _ _ _ (lf_g_copy_8 i1 j1 nn y_17 y_21 iz24 jz24 iz26 jz26 c_11 c_13 c_15 c_18 c_19 c_22 c_23 hiz24_0 hjz24 c_25 hiz26_0 hjz26 c_27) (kCq_s c_4 (lf_g_copy_9 i1 j1 nn y_17 y_21 iz24 jz24 iz26 jz26 c_11 c_13 c_15 c_18 c_19 c_22 c_23 hiz24_0 hjz24 c_25 hiz26_0 hjz26 c_27) (lf_g_copy_10 i1 j1 nn y_17 y_21 iz24 jz24 iz26 jz26 c_11 c_13 c_15 c_18 c_19 c_22 c_23 hiz24_0 hjz24 c_25 hiz26_0 hjz26 c_27) hiz26_1 rfl) rfl (hP.sub [0, 1, 2, 3, 4] rfl) (hD.sub [0, 1, 2, 3, 4] (by decide +kernel) rfl) hS (lv_sub hl [0, 1, 2, 3, 4, 5, 6] rfl)
                        · refine lv_aload_n hx₀ hb dX12_copy_127 rfl (lv_at hl 1 rfl) ?_
                          refine va_get (D := (dC, dI)) (ci := 11) (v := .ref vMo) (C := RX12) (T := TX12) (N := 30) hx₀ hb hts inlX12 hown hK hP 0 rfl rfl 3 (by decide) (hts (.fieldLink RX12 19 "BittenStickModel" "moved" "[I") wd_118) (fun _ h9 => h9) rfl dX12_copy_128 ?_
                          refine lv_iload hx₀ hb dX12_copy_131 (lv_at hl 0 rfl) ?_
                          refine lv_aload_n hx₀ hb dX12_copy_133 rfl (lv_at hl 1 rfl) ?_
                          refine va_get (D := (dC, dI)) (ci := 11) (v := .ref vIt) (C := RX12) (T := TX12) (N := 30) hx₀ hb hts inlX12 hown hK hP 0 rfl rfl 2 (by decide) (hts (.fieldLink RX12 16 "BittenStickModel" "items" "[I") wd_117) (fun _ h9 => h9) rfl dX12_copy_134 ?_
                          refine lv_bipush (v := 60) hx₀ hb dX12_copy_137 (by decide +kernel) ?_
                          refine lv_iload_n hx₀ hb dX12_copy_139 rfl (lv_at hl 2 rfl) ?_
                          refine lv_imul hx₀ hb dX12_copy_140 ?_
                          refine lv_iload_n hx₀ hb dX12_copy_141 rfl (lv_at hl 3 rfl) ?_
                          refine lv_iadd hx₀ hb dX12_copy_142 ?_
                          refine lv_iload hx₀ hb dX12_copy_143 (lv_at hl 0 rfl) ?_
                          refine lv_iadd hx₀ hb dX12_copy_145 ?_
                          refine va_iald hx₀ hb hK hP 3 0 rfl rfl (vp_in_iff.mpr (lf_g_copy_12 ss i1 j1 nn y_17 y_21 iz24 jz24 c_2 c_11 c_13 c_15 c_18 c_19 c_22 c_23 hiz24_0 hjz24 c_25)) dX12_copy_146 ?_
                          refine va_iast hx₀ hb hK hP hD hS 4 0 rfl rfl (vp_in_iff.mpr (lf_g_copy_13 i1 j1 nn y_17 y_21 iz24 jz24 c_11 c_13 c_15 c_18 c_19 c_22 c_23 hiz24_0 hjz24 c_25)) dX12_copy_147 ?_
                          clear hP hD hS
                          intro H locs hP hD hS
                          replace hP := k_w2 (wt := [(kX12 hm vFo vSi vIt vMo la vBy vTy mi vMi pn vPs gn vGs fn vFt le vTo kn fe en ca an co vPr vSt vFn sn vSg vAl dr), (kAI vFo cI 4 qFo), (kAI vSi cI 4 qSi), (kAI vIt cI 240 qIt), (kAI vMo cI 60 (upd qmz24 iz24.toNatClampNeg (qIt (((60 * ss) + i1) + iz24).toNatClampNeg)))]) hP hD rfl
                          replace hD := hP.2
                          replace hP := hP.1
                          refine lv_iinc (v := iz24 + 1) (lv' := [(6, .int (iz24 + 1)), (0, .ref hm), (1, .int ss), (2, .int i1), (3, .int s2), (4, .int j1), (5, .int nn)]) hx₀ hb dX12_copy_148 hl (k := 0) rfl rfl (by decide) rfl (fun ls hl => ?_)
                          refine lv_goto (tgt := 120) hx₀ hb dX12_copy_151 (by decide) ?_
                          exact ihz24 _ (lf_g_copy_16 i1 j1 nn y_17 y_21 iz24 jz24 c_11 c_13 c_15 c_18 c_19 c_22 c_23 hiz24_0 hjz24 c_25) (iz24 + 1) (upd qmz24 iz24.toNatClampNeg (qIt (((60 * ss) + i1) + iz24).toNatClampNeg)) _ _ _ (lf_g_copy_14 i1 j1 nn y_17 y_21 iz24 jz24 c_11 c_13 c_15 c_18 c_19 c_22 c_23 hiz24_0 hjz24 c_25) (k_mv_s (lf_g_copy_15 i1 j1 nn y_17 y_21 iz24 jz24 c_11 c_13 c_15 c_18 c_19 c_22 c_23 hiz24_0 hjz24 c_25) hiz24_1 rfl) rfl (hP.sub [0, 1, 2, 3, 4] rfl) (hD.sub [0, 1, 2, 3, 4] (by decide +kernel) rfl) hS (lv_sub hl [0, 1, 2, 3, 4, 5, 6] rfl)
                    · refine lv_aload_n hx₀ hb dX12_copy_111 rfl (lv_at hl 0 rfl) ?_
                      refine lv_iconst (v := 2) hx₀ hb dX12_copy_112 (by decide +kernel) ?_
                      obtain ⟨hPc, hDc, hFc, hC⟩ := k_cw (wc := [(kX12 hm vFo vSi vIt vMo la vBy vTy mi vMi pn vPs gn vGs fn vFt le vTo kn fe en ca an co vPr vSt vFn sn vSg vAl dr)]) hP hD hS hA [0] (by decide +kernel) rfl
                      refine va_calli (va_runV (As := [.int 2]) (rest := []) ⟨hx₀, hb, hml, hown, hts⟩ (g_finds2 l dC dI cI cJ cQ H.size hm vFo vSi vIt vMo la vBy vTy mi vMi pn vPs gn vGs fn vFt le vTo kn fe en ca an co vPr vSt vFn sn vSg vAl dr) (cwV 1 hts (kGV wd_404 wd_401 wd_402 wd_403 wd_5) rfl rfl rfl (by decide +kernel) ⟨Nat.le_of_ble_eq_true rfl, Nat.le_of_ble_eq_true rfl⟩) (k_preV11 (q0 := 0) hK hPc hDc hN rfl) rfl rfl hl.1 rfl (lv_room (Nat.le_of_ble_eq_true rfl)) dX12_copy_113 ⟨by decide +kernel, by decide +kernel⟩) hS (fun q _ h => hFc q h) hFc (fun r_28 u₀ t₀ H1 locs ht hvm hw hB hz1 hk1 hS => ?_)
                      obtain ⟨hP1, hK1, hD1⟩ := hB
                      rw [ht] at hP1
                      have hJ := k_jn (wr := [(kAI vFo cI 4 qFo), (kAI vSi cI 4 qSi), (kAI vIt cI 240 qIt), (kAI vMo cI 60 qMv)]) (wt := [(kAI vFo cI 4 qFo), (kAI vSi cI 4 qSi), (kAI vIt cI 240 qIt), (kAI vMo cI 60 qMv), (kX12 hm vFo vSi vIt vMo 2 vBy vTy mi vMi pn vPs gn vGs fn vFt le vTo kn fe en ca an co vPr vSt vFn sn vSg vAl dr)]) hP hD hC [1, 2, 3, 4] rfl (by decide +kernel) (by decide +kernel) hk1 hFc hP1 hD1 rfl
                      clear hP hD hPc hDc hFc hC hP1 hD1 hK1 hz1 hk1 hvm ht
                      obtain ⟨hP, hD⟩ := hJ
                      generalize H1 = H at hP hS ⊢
                      try dsimp only at hw
                      refine k_topi (v := (-12)) hw ?_
                      obtain ⟨hP9, hD9⟩ := k_c2 (wc := [(kX12 hm vFo vSi vIt vMo 2 vBy vTy mi vMi pn vPs gn vGs fn vFt le vTo kn fe en ca an co vPr vSt vFn sn vSg vAl dr), (kAI vFo cI 4 qFo), (kAI vSi cI 4 qSi), (kAI vIt cI 240 qIt), (kAI vMo cI 60 qMv)]) hP hD [4, 0, 1, 2, 3] (by decide +kernel) rfl
                      exact W.iret (v := (-12)) hx₀ hb hr (fun t₀ ht hW => ⟨⟨(-12), (k_fn [(2 : Int32)], k_fa [qIt, qMv], k_fl [], k_fL [], k_fp []), rfl, ⟨(by rewrite [← ey_5, ← ey_8, ← ey_17, ← ey_21]; exact (((((((if_neg (lf_g_copy_17 i1 j1 nn y_17 y_21 c_11 c_13 c_15 c_18 c_19 c_22 c_23)).symm).trans (if_pos (c_10)).symm)).trans (if_pos (show ¬ y_5 < 0 ∧ ¬ y_8 < 0 from ⟨c_6, (Int32.not_lt.mpr c_9)⟩)).symm)).trans (if_pos (show 0 ≤ ss ∧ ss ≤ 3 ∧ 0 ≤ s2 ∧ s2 ≤ 3 from ⟨c_2.1, c_2.2, c_4.1, c_4.2⟩)).symm)), kFd_12.symm, (if_neg (by rewrite [← ey_5, ← ey_8, ← ey_17, ← ey_21]; exact lf_g_copy_18 ss s2 y_5 y_8 i1 j1 nn y_17 y_21 c_2 c_4 c_6 c_9 c_10 c_11 c_13 c_15 c_18 c_19 c_22 c_23)).symm, (fun q => absurd q (by rewrite [← ey_5, ← ey_8, ← ey_17, ← ey_21]; exact lf_g_copy_18 ss s2 y_5 y_8 i1 j1 nn y_17 y_21 c_2 c_4 c_6 c_9 c_10 c_11 c_13 c_15 c_18 c_19 c_22 c_23))⟩, by rw [ht]; exact hP9, va_K.moved hW.alike hK, hD9⟩, hS.F ht⟩) hS.2.2 dX12_copy_116
          · refine lv_aload_n hx₀ hb dX12_copy_56 rfl (lv_at hl 0 rfl) ?_
            refine lv_iconst (v := 4) hx₀ hb dX12_copy_57 (by decide +kernel) ?_
            obtain ⟨hPc, hDc, hFc, hC⟩ := k_cw (wc := [(kX12 hm vFo vSi vIt vMo la vBy vTy mi vMi pn vPs gn vGs fn vFt le vTo kn fe en ca an co vPr vSt vFn sn vSg vAl dr)]) hP hD hS hA [0] (by decide +kernel) rfl
            refine va_calli (va_runV (As := [.int 4]) (rest := []) ⟨hx₀, hb, hml, hown, hts⟩ (g_finds4 l dC dI cI cJ cQ H.size hm vFo vSi vIt vMo la vBy vTy mi vMi pn vPs gn vGs fn vFt le vTo kn fe en ca an co vPr vSt vFn sn vSg vAl dr) (cwV 1 hts (kGV wd_404 wd_401 wd_402 wd_403 wd_5) rfl rfl rfl (by decide +kernel) ⟨Nat.le_of_ble_eq_true rfl, Nat.le_of_ble_eq_true rfl⟩) (k_preV11 (q0 := 0) hK hPc hDc hN rfl) rfl rfl hl.1 rfl (lv_room (Nat.le_of_ble_eq_true rfl)) dX12_copy_58 ⟨by decide +kernel, by decide +kernel⟩) hS (fun q _ h => hFc q h) hFc (fun r_29 u₀ t₀ H1 locs ht hvm hw hB hz1 hk1 hS => ?_)
            obtain ⟨hP1, hK1, hD1⟩ := hB
            rw [ht] at hP1
            have hJ := k_jn (wr := [(kAI vFo cI 4 qFo), (kAI vSi cI 4 qSi), (kAI vIt cI 240 qIt), (kAI vMo cI 60 qMv)]) (wt := [(kAI vFo cI 4 qFo), (kAI vSi cI 4 qSi), (kAI vIt cI 240 qIt), (kAI vMo cI 60 qMv), (kX12 hm vFo vSi vIt vMo 4 vBy vTy mi vMi pn vPs gn vGs fn vFt le vTo kn fe en ca an co vPr vSt vFn sn vSg vAl dr)]) hP hD hC [1, 2, 3, 4] rfl (by decide +kernel) (by decide +kernel) hk1 hFc hP1 hD1 rfl
            clear hP hD hPc hDc hFc hC hP1 hD1 hK1 hz1 hk1 hvm ht
            obtain ⟨hP, hD⟩ := hJ
            generalize H1 = H at hP hS ⊢
            try dsimp only at hw
            refine k_topi (v := (-14)) hw ?_
            obtain ⟨hP9, hD9⟩ := k_c2 (wc := [(kX12 hm vFo vSi vIt vMo 4 vBy vTy mi vMi pn vPs gn vGs fn vFt le vTo kn fe en ca an co vPr vSt vFn sn vSg vAl dr), (kAI vFo cI 4 qFo), (kAI vSi cI 4 qSi), (kAI vIt cI 240 qIt), (kAI vMo cI 60 qMv)]) hP hD [4, 0, 1, 2, 3] (by decide +kernel) rfl
            exact W.iret (v := (-14)) hx₀ hb hr (fun t₀ ht hW => ⟨⟨(-14), (k_fn [(4 : Int32)], k_fa [qIt, qMv], k_fl [], k_fL [], k_fp []), rfl, ⟨(by rewrite [← ey_5, ← ey_8]; exact (((((if_neg (c_10)).symm).trans (if_pos (show ¬ y_5 < 0 ∧ ¬ y_8 < 0 from ⟨c_6, (Int32.not_lt.mpr c_9)⟩)).symm)).trans (if_pos (show 0 ≤ ss ∧ ss ≤ 3 ∧ 0 ≤ s2 ∧ s2 ≤ 3 from ⟨c_2.1, c_2.2, c_4.1, c_4.2⟩)).symm)), kFd_14.symm, (if_neg (by rewrite [← ey_5, ← ey_8]; exact (fun z => c_10 z.2.2.2.2.2.2.1))).symm, (fun q => absurd q (by rewrite [← ey_5, ← ey_8]; exact (fun z => c_10 z.2.2.2.2.2.2.1)))⟩, by rw [ht]; exact hP9, va_K.moved hW.alike hK, hD9⟩, hS.F ht⟩) hS.2.2 dX12_copy_61
        · refine lv_aload_n hx₀ hb dX12_copy_35 rfl (lv_at hl 0 rfl) ?_
          refine lv_iconst (v := 1) hx₀ hb dX12_copy_36 (by decide +kernel) ?_
          obtain ⟨hPc, hDc, hFc, hC⟩ := k_cw (wc := [(kX12 hm vFo vSi vIt vMo la vBy vTy mi vMi pn vPs gn vGs fn vFt le vTo kn fe en ca an co vPr vSt vFn sn vSg vAl dr)]) hP hD hS hA [0] (by decide +kernel) rfl
          refine va_calli (va_runV (As := [.int 1]) (rest := []) ⟨hx₀, hb, hml, hown, hts⟩ (g_finds1 l dC dI cI cJ cQ H.size hm vFo vSi vIt vMo la vBy vTy mi vMi pn vPs gn vGs fn vFt le vTo kn fe en ca an co vPr vSt vFn sn vSg vAl dr) (cwV 1 hts (kGV wd_404 wd_401 wd_402 wd_403 wd_5) rfl rfl rfl (by decide +kernel) ⟨Nat.le_of_ble_eq_true rfl, Nat.le_of_ble_eq_true rfl⟩) (k_preV11 (q0 := 0) hK hPc hDc hN rfl) rfl rfl hl.1 rfl (lv_room (Nat.le_of_ble_eq_true rfl)) dX12_copy_37 ⟨by decide +kernel, by decide +kernel⟩) hS (fun q _ h => hFc q h) hFc (fun r_30 u₀ t₀ H1 locs ht hvm hw hB hz1 hk1 hS => ?_)
          obtain ⟨hP1, hK1, hD1⟩ := hB
          rw [ht] at hP1
          have hJ := k_jn (wr := [(kAI vFo cI 4 qFo), (kAI vSi cI 4 qSi), (kAI vIt cI 240 qIt), (kAI vMo cI 60 qMv)]) (wt := [(kAI vFo cI 4 qFo), (kAI vSi cI 4 qSi), (kAI vIt cI 240 qIt), (kAI vMo cI 60 qMv), (kX12 hm vFo vSi vIt vMo 1 vBy vTy mi vMi pn vPs gn vGs fn vFt le vTo kn fe en ca an co vPr vSt vFn sn vSg vAl dr)]) hP hD hC [1, 2, 3, 4] rfl (by decide +kernel) (by decide +kernel) hk1 hFc hP1 hD1 rfl
          clear hP hD hPc hDc hFc hC hP1 hD1 hK1 hz1 hk1 hvm ht
          obtain ⟨hP, hD⟩ := hJ
          generalize H1 = H at hP hS ⊢
          try dsimp only at hw
          refine k_topi (v := (-11)) hw ?_
          obtain ⟨hP9, hD9⟩ := k_c2 (wc := [(kX12 hm vFo vSi vIt vMo 1 vBy vTy mi vMi pn vPs gn vGs fn vFt le vTo kn fe en ca an co vPr vSt vFn sn vSg vAl dr), (kAI vFo cI 4 qFo), (kAI vSi cI 4 qSi), (kAI vIt cI 240 qIt), (kAI vMo cI 60 qMv)]) hP hD [4, 0, 1, 2, 3] (by decide +kernel) rfl
          exact W.iret (v := (-11)) hx₀ hb hr (fun t₀ ht hW => ⟨⟨(-11), (k_fn [(1 : Int32)], k_fa [qIt, qMv], k_fl [], k_fL [], k_fp []), rfl, ⟨(by rewrite [← ey_5, ← ey_8]; exact (((if_neg (show ¬ (¬ y_5 < 0 ∧ ¬ y_8 < 0) from (fun z => (fun z => z (Int32.not_le.mp c_9)) z.2))).symm).trans (if_pos (show 0 ≤ ss ∧ ss ≤ 3 ∧ 0 ≤ s2 ∧ s2 ≤ 3 from ⟨c_2.1, c_2.2, c_4.1, c_4.2⟩)).symm)), kFd_11.symm, (if_neg (by rewrite [← ey_5, ← ey_8]; exact (fun z => (fun z => z (Int32.not_le.mp c_9)) z.2.2.2.2.2.1))).symm, (fun q => absurd q (by rewrite [← ey_5, ← ey_8]; exact (fun z => (fun z => z (Int32.not_le.mp c_9)) z.2.2.2.2.2.1)))⟩, by rw [ht]; exact hP9, va_K.moved hW.alike hK, hD9⟩, hS.F ht⟩) hS.2.2 dX12_copy_40
    rw [if_neg c_4] at hw
    refine k_topi (v := 0) hw ?_
    refine lv_if_ne (tgt := 17) hx₀ hb dX12_copy_11 (by decide) (fun c9 => absurd (by decide +kernel) c9) (fun _ => ?_)
    refine lv_bipush (v := (-2)) hx₀ hb dX12_copy_14 (by decide +kernel) ?_
    obtain ⟨hP9, hD9⟩ := k_c2 (wc := [(kX12 hm vFo vSi vIt vMo la vBy vTy mi vMi pn vPs gn vGs fn vFt le vTo kn fe en ca an co vPr vSt vFn sn vSg vAl dr), (kAI vFo cI 4 qFo), (kAI vSi cI 4 qSi), (kAI vIt cI 240 qIt), (kAI vMo cI 60 qMv)]) hP hD [0, 1, 2, 3, 4] (by decide +kernel) rfl
    exact W.iret (v := (-2)) hx₀ hb hr (fun t₀ ht hW => ⟨⟨(-2), (k_fn [la], k_fa [qIt, qMv], k_fl [], k_fL [], k_fp []), rfl, ⟨(show ((-2) : Int32) = if 0 ≤ ss ∧ ss ≤ 3 ∧ 0 ≤ s2 ∧ s2 ≤ 3 then (if ¬ qFo ss.toNatClampNeg < 0 ∧ ¬ qFo s2.toNatClampNeg < 0 then (if qFo ss.toNatClampNeg = qFo s2.toNatClampNeg then (if 0 ≤ i1 ∧ 0 ≤ j1 ∧ 0 ≤ nn ∧ i1.toInt + nn.toInt ≤ (qSi ss.toNatClampNeg).toInt ∧ j1.toInt + nn.toInt ≤ (qSi s2.toNatClampNeg).toInt then 1 else -12) else -14) else -11) else -2 from (if_neg (show ¬ (0 ≤ ss ∧ ss ≤ 3 ∧ 0 ≤ s2 ∧ s2 ≤ 3) from (fun z => c_4 (And.intro z.2.2.1 z.2.2.2)))).symm), (kFd_ge (by decide)).symm, (if_neg (show ¬ (0 ≤ ss ∧ ss ≤ 3 ∧ 0 ≤ s2 ∧ s2 ≤ 3 ∧ ¬ qFo ss.toNatClampNeg < 0 ∧ ¬ qFo s2.toNatClampNeg < 0 ∧ qFo ss.toNatClampNeg = qFo s2.toNatClampNeg ∧ 0 ≤ i1 ∧ 0 ≤ j1 ∧ 0 ≤ nn ∧ i1.toInt + nn.toInt ≤ (qSi ss.toNatClampNeg).toInt ∧ j1.toInt + nn.toInt ≤ (qSi s2.toNatClampNeg).toInt) from (fun z => c_4 (And.intro z.2.2.1 z.2.2.2.1)))).symm, (fun q => absurd q (show ¬ (0 ≤ ss ∧ ss ≤ 3 ∧ 0 ≤ s2 ∧ s2 ≤ 3 ∧ ¬ qFo ss.toNatClampNeg < 0 ∧ ¬ qFo s2.toNatClampNeg < 0 ∧ qFo ss.toNatClampNeg = qFo s2.toNatClampNeg ∧ 0 ≤ i1 ∧ 0 ≤ j1 ∧ 0 ≤ nn ∧ i1.toInt + nn.toInt ≤ (qSi ss.toNatClampNeg).toInt ∧ j1.toInt + nn.toInt ≤ (qSi s2.toNatClampNeg).toInt) from (fun z => c_4 (And.intro z.2.2.1 z.2.2.2.1))))⟩, by rw [ht]; exact hP9, va_K.moved hW.alike hK, hD9⟩, hS.F ht⟩) hS.2.2 dX12_copy_16
  rw [if_neg c_2] at hw
  refine k_topi (v := 0) hw ?_
  refine lv_if_eq (tgt := 14) hx₀ hb dX12_copy_4 (by decide) (fun _ => ?_) (fun c9 => absurd (by decide +kernel) c9)
  refine lv_bipush (v := (-2)) hx₀ hb dX12_copy_14 (by decide +kernel) ?_
  obtain ⟨hP9, hD9⟩ := k_c2 (wc := [(kX12 hm vFo vSi vIt vMo la vBy vTy mi vMi pn vPs gn vGs fn vFt le vTo kn fe en ca an co vPr vSt vFn sn vSg vAl dr), (kAI vFo cI 4 qFo), (kAI vSi cI 4 qSi), (kAI vIt cI 240 qIt), (kAI vMo cI 60 qMv)]) hP hD [0, 1, 2, 3, 4] (by decide +kernel) rfl
  exact W.iret (v := (-2)) hx₀ hb hr (fun t₀ ht hW => ⟨⟨(-2), (k_fn [la], k_fa [qIt, qMv], k_fl [], k_fL [], k_fp []), rfl, ⟨(show ((-2) : Int32) = if 0 ≤ ss ∧ ss ≤ 3 ∧ 0 ≤ s2 ∧ s2 ≤ 3 then (if ¬ qFo ss.toNatClampNeg < 0 ∧ ¬ qFo s2.toNatClampNeg < 0 then (if qFo ss.toNatClampNeg = qFo s2.toNatClampNeg then (if 0 ≤ i1 ∧ 0 ≤ j1 ∧ 0 ≤ nn ∧ i1.toInt + nn.toInt ≤ (qSi ss.toNatClampNeg).toInt ∧ j1.toInt + nn.toInt ≤ (qSi s2.toNatClampNeg).toInt then 1 else -12) else -14) else -11) else -2 from (if_neg (show ¬ (0 ≤ ss ∧ ss ≤ 3 ∧ 0 ≤ s2 ∧ s2 ≤ 3) from (fun z => c_2 (And.intro z.1 z.2.1)))).symm), (kFd_ge (by decide)).symm, (if_neg (show ¬ (0 ≤ ss ∧ ss ≤ 3 ∧ 0 ≤ s2 ∧ s2 ≤ 3 ∧ ¬ qFo ss.toNatClampNeg < 0 ∧ ¬ qFo s2.toNatClampNeg < 0 ∧ qFo ss.toNatClampNeg = qFo s2.toNatClampNeg ∧ 0 ≤ i1 ∧ 0 ≤ j1 ∧ 0 ≤ nn ∧ i1.toInt + nn.toInt ≤ (qSi ss.toNatClampNeg).toInt ∧ j1.toInt + nn.toInt ≤ (qSi s2.toNatClampNeg).toInt) from (fun z => c_2 (And.intro z.1 z.2.1)))).symm, (fun q => absurd q (show ¬ (0 ≤ ss ∧ ss ≤ 3 ∧ 0 ≤ s2 ∧ s2 ≤ 3 ∧ ¬ qFo ss.toNatClampNeg < 0 ∧ ¬ qFo s2.toNatClampNeg < 0 ∧ qFo ss.toNatClampNeg = qFo s2.toNatClampNeg ∧ 0 ≤ i1 ∧ 0 ≤ j1 ∧ 0 ≤ nn ∧ i1.toInt + nn.toInt ≤ (qSi ss.toNatClampNeg).toInt ∧ j1.toInt + nn.toInt ≤ (qSi s2.toNatClampNeg).toInt) from (fun z => c_2 (And.intro z.1 z.2.1))))⟩, by rw [ht]; exact hP9, va_K.moved hW.alike hK, hD9⟩, hS.F ht⟩) hS.2.2 dX12_copy_16
theorem lf_g_flight_1 (a0 : Int32) (h0 : 0 ≤ a0 ∧ a0 ≤ 8) (h1 : ¬ a0 = 8) : 0 ≤ (4 * a0).toInt ∧ (4 * a0).toInt < 32 := by
  first | rfl | assumption | decide | exact Or.inl rfl | (first | rfl | assumption | decide | omega | (have hr0 := Int32.toInt_lt a0; have hs0 := Int32.le_toInt a0; simp only [Int64.toInt_add, Int64.toInt_sub, Int32.toInt_add, Int32.toInt_sub, Int32.toInt_mul, Int64.le_iff_toInt_le, Int64.lt_iff_toInt_lt, Int32.le_iff_toInt_le, Int32.lt_iff_toInt_lt, ← Int32.toInt_inj, ← Int64.toInt_inj, Int32.toInt_toInt64, kc_0, kc_4, kc_8, kc_32, true_and, and_true, not_true_eq_false, not_false_eq_true] at * <;> ((first | omega | ((try simp (disch := omega) only [k_bm64] at *); (try simp (disch := omega) only [k_bm] at *); (try simp (disch := omega) only [k_bm] at *); omega) | (simp only [Int.bmod] at *; omega)))))
theorem lf_g_flight_2 (a0 : Int32) (h0 : 0 ≤ a0 ∧ a0 ≤ 8) (h1 : ¬ a0 = 8) : 0 ≤ ((4 * a0) + 1).toInt ∧ ((4 * a0) + 1).toInt < 32 := by
  first | rfl | assumption | decide | exact Or.inl rfl | (first | rfl | assumption | decide | omega | (have hr0 := Int32.toInt_lt a0; have hs0 := Int32.le_toInt a0; simp only [Int64.toInt_add, Int64.toInt_sub, Int32.toInt_add, Int32.toInt_sub, Int32.toInt_mul, Int64.le_iff_toInt_le, Int64.lt_iff_toInt_lt, Int32.le_iff_toInt_le, Int32.lt_iff_toInt_lt, ← Int32.toInt_inj, ← Int64.toInt_inj, Int32.toInt_toInt64, kc_0, kc_1, kc_4, kc_8, kc_32, true_and, and_true, not_true_eq_false, not_false_eq_true] at * <;> ((first | omega | ((try simp (disch := omega) only [k_bm64] at *); (try simp (disch := omega) only [k_bm] at *); (try simp (disch := omega) only [k_bm] at *); omega) | (simp only [Int.bmod] at *; omega)))))
theorem lf_g_flight_3 (a0 : Int32) (h0 : 0 ≤ a0 ∧ a0 ≤ 8) (h1 : ¬ a0 = 8) : 0 ≤ ((4 * a0) + 2).toInt ∧ ((4 * a0) + 2).toInt < 32 := by
  first | rfl | assumption | decide | exact Or.inl rfl | (first | rfl | assumption | decide | omega | (have hr0 := Int32.toInt_lt a0; have hs0 := Int32.le_toInt a0; simp only [Int64.toInt_add, Int64.toInt_sub, Int32.toInt_add, Int32.toInt_sub, Int32.toInt_mul, Int64.le_iff_toInt_le, Int64.lt_iff_toInt_lt, Int32.le_iff_toInt_le, Int32.lt_iff_toInt_lt, ← Int32.toInt_inj, ← Int64.toInt_inj, Int32.toInt_toInt64, kc_0, kc_2, kc_4, kc_8, kc_32, true_and, and_true, not_true_eq_false, not_false_eq_true] at * <;> ((first | omega | ((try simp (disch := omega) only [k_bm64] at *); (try simp (disch := omega) only [k_bm] at *); (try simp (disch := omega) only [k_bm] at *); omega) | (simp only [Int.bmod] at *; omega)))))
theorem lf_g_flight_4 (a0 : Int32) (h0 : 0 ≤ a0 ∧ a0 ≤ 8) (h1 : ¬ a0 = 8) : 0 ≤ ((4 * a0) + 3).toInt ∧ ((4 * a0) + 3).toInt < 32 := by
  first | rfl | assumption | decide | exact Or.inl rfl | (first | rfl | assumption | decide | omega | (have hr0 := Int32.toInt_lt a0; have hs0 := Int32.le_toInt a0; simp only [Int64.toInt_add, Int64.toInt_sub, Int32.toInt_add, Int32.toInt_sub, Int32.toInt_mul, Int64.le_iff_toInt_le, Int64.lt_iff_toInt_lt, Int32.le_iff_toInt_le, Int32.lt_iff_toInt_lt, ← Int32.toInt_inj, ← Int64.toInt_inj, Int32.toInt_toInt64, kc_0, kc_3, kc_4, kc_8, kc_32, true_and, and_true, not_true_eq_false, not_false_eq_true] at * <;> ((first | omega | ((try simp (disch := omega) only [k_bm64] at *); (try simp (disch := omega) only [k_bm] at *); (try simp (disch := omega) only [k_bm] at *); omega) | (simp only [Int.bmod] at *; omega)))))
theorem lf_g_flight_5 (a0 : Int32) (h0 : 0 ≤ a0 ∧ a0 ≤ 8) (h1 : ¬ a0 = 8) : 0 ≤ (a0 + 1) ∧ (a0 + 1) ≤ 8 := by
  first | rfl | assumption | decide | exact Or.inl rfl | (first | rfl | assumption | decide | omega | (have hr0 := Int32.toInt_lt a0; have hs0 := Int32.le_toInt a0; simp only [Int64.toInt_add, Int64.toInt_sub, Int32.toInt_add, Int32.toInt_sub, Int32.toInt_mul, Int64.le_iff_toInt_le, Int64.lt_iff_toInt_lt, Int32.le_iff_toInt_le, Int32.lt_iff_toInt_lt, ← Int32.toInt_inj, ← Int64.toInt_inj, Int32.toInt_toInt64, kc_0, kc_1, kc_8, true_and, and_true, not_true_eq_false, not_false_eq_true] at * <;> ((first | omega | ((try simp (disch := omega) only [k_bm64] at *); (try simp (disch := omega) only [k_bm] at *); (try simp (disch := omega) only [k_bm] at *); omega) | (simp only [Int.bmod] at *; omega)))))
theorem lf_g_flight_6 (a0 : Int32) (h0 : (0 : Int64) ≤ a0.toInt64 ∧ a0.toInt64 ≤ (7 : Int64)) : 0 ≤ a0.toInt ∧ a0.toInt ≤ 9 := by
  first | rfl | assumption | decide | exact Or.inl rfl | (first | rfl | assumption | decide | omega | (have hr0 := Int32.toInt_lt a0; have hs0 := Int32.le_toInt a0; simp only [Int64.toInt_add, Int64.toInt_sub, Int32.toInt_add, Int32.toInt_sub, Int32.toInt_mul, Int64.le_iff_toInt_le, Int64.lt_iff_toInt_lt, Int32.le_iff_toInt_le, Int32.lt_iff_toInt_lt, ← Int32.toInt_inj, ← Int64.toInt_inj, Int32.toInt_toInt64, kc_0, kd_0, kc_7, kd_7, kc_9, kd_9, true_and, and_true, not_true_eq_false, not_false_eq_true] at * <;> ((first | omega | ((try simp (disch := omega) only [k_bm64] at *); (try simp (disch := omega) only [k_bm] at *); (try simp (disch := omega) only [k_bm] at *); omega) | (simp only [Int.bmod] at *; omega)))))
theorem lf_g_flight_7 (a0 : Int32) (a1 : Int32) (h0 : (0 : Int64) ≤ a0.toInt64 ∧ a0.toInt64 ≤ (7 : Int64)) (h1 : (0 : Int64) ≤ a1.toInt64 ∧ a1.toInt64 ≤ (7 : Int64)) (h2 : ¬ a0 = a1) : 0 ≤ a0.toInt ∧ a0.toInt ≤ 9 := by
  first | rfl | assumption | decide | exact Or.inl rfl | (first | rfl | assumption | decide | omega | (have hr0 := Int32.toInt_lt a0; have hs0 := Int32.le_toInt a0; have hr1 := Int32.toInt_lt a1; have hs1 := Int32.le_toInt a1; simp only [Int64.toInt_add, Int64.toInt_sub, Int32.toInt_add, Int32.toInt_sub, Int32.toInt_mul, Int64.le_iff_toInt_le, Int64.lt_iff_toInt_lt, Int32.le_iff_toInt_le, Int32.lt_iff_toInt_lt, ← Int32.toInt_inj, ← Int64.toInt_inj, Int32.toInt_toInt64, kc_0, kd_0, kc_7, kd_7, kc_9, kd_9, true_and, and_true, not_true_eq_false, not_false_eq_true] at * <;> ((first | omega | ((try simp (disch := omega) only [k_bm64] at *); (try simp (disch := omega) only [k_bm] at *); (try simp (disch := omega) only [k_bm] at *); omega) | (simp only [Int.bmod] at *; omega)))))
theorem lf_g_flight_8 (a0 : Int32) (a1 : Int32) (h0 : (0 : Int64) ≤ a0.toInt64 ∧ a0.toInt64 ≤ (7 : Int64)) (h1 : (0 : Int64) ≤ a1.toInt64 ∧ a1.toInt64 ≤ (7 : Int64)) (h2 : ¬ a0 = a1) : 0 ≤ a1.toInt ∧ a1.toInt ≤ 9 := by
  first | rfl | assumption | decide | exact Or.inl rfl | (first | rfl | assumption | decide | omega | (have hr0 := Int32.toInt_lt a0; have hs0 := Int32.le_toInt a0; have hr1 := Int32.toInt_lt a1; have hs1 := Int32.le_toInt a1; simp only [Int64.toInt_add, Int64.toInt_sub, Int32.toInt_add, Int32.toInt_sub, Int32.toInt_mul, Int64.le_iff_toInt_le, Int64.lt_iff_toInt_lt, Int32.le_iff_toInt_le, Int32.lt_iff_toInt_lt, ← Int32.toInt_inj, ← Int64.toInt_inj, Int32.toInt_toInt64, kc_0, kd_0, kc_7, kd_7, kc_9, kd_9, true_and, and_true, not_true_eq_false, not_false_eq_true] at * <;> ((first | omega | ((try simp (disch := omega) only [k_bm64] at *); (try simp (disch := omega) only [k_bm] at *); (try simp (disch := omega) only [k_bm] at *); omega) | (simp only [Int.bmod] at *; omega)))))
theorem lf_g_flight_9 (a0 : Int32) (h0 : (1 : Int64) ≤ a0.toInt64 ∧ a0.toInt64 ≤ (9 : Int64)) : 0 ≤ a0.toInt ∧ a0.toInt ≤ 9 := by
  first | rfl | assumption | decide | exact Or.inl rfl | (first | rfl | assumption | decide | omega | (have hr0 := Int32.toInt_lt a0; have hs0 := Int32.le_toInt a0; simp only [Int64.toInt_add, Int64.toInt_sub, Int32.toInt_add, Int32.toInt_sub, Int32.toInt_mul, Int64.le_iff_toInt_le, Int64.lt_iff_toInt_lt, Int32.le_iff_toInt_le, Int32.lt_iff_toInt_lt, ← Int32.toInt_inj, ← Int64.toInt_inj, Int32.toInt_toInt64, kc_0, kd_0, kc_1, kd_1, kc_9, kd_9, true_and, and_true, not_true_eq_false, not_false_eq_true] at * <;> ((first | omega | ((try simp (disch := omega) only [k_bm64] at *); (try simp (disch := omega) only [k_bm] at *); (try simp (disch := omega) only [k_bm] at *); omega) | (simp only [Int.bmod] at *; omega)))))
set_option maxHeartbeats 4000000 in
set_option maxRecDepth 100000 in
theorem g_flight (l : Launch) (dC : Nat → ClassId) (dI : Nat → Nat → Nat) (cI cJ cQ : ClassId) (sz : Nat) (hm : Nat) (p1 : Int32) (le1 : Int32) (ri1 : Int32) (h1 : Int32) (vFo : Nat) (vSi : Nat) (vIt : Nat) (vMo : Nat) (la : Int32) (vBy : Nat) (vTy : Nat) (mi : Int32) (vMi : Nat) (pn : Int32) (vPs : Nat) (gn : Int32) (vGs : Nat) (fn : Int32) (vFt : Nat) (le : Int32) (vTo : Nat) (kn : Int32) (fe : Int32) (en : Int32) (ca : Int32) (an : Int32) (co : Int32) (vPr : Nat) (vSt : Nat) (vFn : Nat) (sn : Int32) (vSg : Nat) (vAl : Nat) (dr : Int32) (qFt : Nat → Int32) (hh0 : 0 ≤ fn ∧ fn ≤ 8) (hh1 : k_bd 32 0 9 qFt) : Met l yX12_flight (kW yX12_flight cX12_flight 5 (some .int)) { frames := 1, cells := 0, slots := 0, locals := 25 } (kPre dC dI cI cJ cQ sz [.ref hm, .int p1, .int le1, .int ri1, .int h1] [(kX12 hm vFo vSi vIt vMo la vBy vTy mi vMi pn vPs gn vGs fn vFt le vTo kn fe en ca an co vPr vSt vFn sn vSg vAl dr), (kAI vFt cI 32 qFt)]) (va_Qi (fun (r : Int32) (u : kS) => (r = if 0 ≤ p1 ∧ p1 ≤ 7 ∧ 0 ≤ le1 ∧ le1 ≤ 7 ∧ 0 ≤ ri1 ∧ ri1 ≤ 7 ∧ ¬ le1 = ri1 ∧ 1 ≤ h1 ∧ h1 ≤ 9 then (if fn = 8 then -4 else fn + 1) else -2) ∧ (0 ≤ (u.1 0) ∧ (u.1 0) ≤ 8) ∧ (k_bd 32 0 9 (u.2.1 0)) ∧ ((u.1 0) = if (0 ≤ p1 ∧ p1 ≤ 7 ∧ 0 ≤ le1 ∧ le1 ≤ 7 ∧ 0 ≤ ri1 ∧ ri1 ≤ 7 ∧ ¬ le1 = ri1 ∧ 1 ≤ h1 ∧ h1 ≤ 9) ∧ ¬ fn = 8 then fn + 1 else fn) ∧ ((u.2.1 0) = if (0 ≤ p1 ∧ p1 ≤ 7 ∧ 0 ≤ le1 ∧ le1 ≤ 7 ∧ 0 ≤ ri1 ∧ ri1 ≤ 7 ∧ ¬ le1 = ri1 ∧ 1 ≤ h1 ∧ h1 ≤ 9) ∧ ¬ fn = 8 then upd (upd (upd (upd qFt (4 * fn).toNatClampNeg p1) ((4 * fn) + 1).toNatClampNeg le1) ((4 * fn) + 2).toNatClampNeg ri1) ((4 * fn) + 3).toNatClampNeg h1 else qFt)) (fun (u : kS) t₀ => kB dC dI cI cJ cQ (va_A [(kX12 hm vFo vSi vIt vMo la vBy vTy mi vMi pn vPs gn vGs fn vFt le vTo kn fe en ca an co vPr vSt vFn sn vSg vAl dr), (kAI vFt cI 32 qFt)] sz) [(kX12 hm vFo vSi vIt vMo la vBy vTy mi vMi pn vPs gn vGs (u.1 0) vFt le vTo kn fe en ca an co vPr vSt vFn sn vSg vAl dr), (kAI vFt cI 32 (u.2.1 0))] t₀) (va_A [(kX12 hm vFo vSi vIt vMo la vBy vTy mi vMi pn vPs gn vGs fn vFt le vTo kn fe en ca an co vPr vSt vFn sn vSg vAl dr), (kAI vFt cI 32 qFt)] sz)) 0 0 (va_A [(kX12 hm vFo vSi vIt vMo la vBy vTy mi vMi pn vPs gn vGs fn vFt le vTo kn fe en ca an co vPr vSt vFn sn vSg vAl dr), (kAI vFt cI 32 qFt)] sz) := by
  refine Met.ofW (cc := cX12_flight) (maxL := 5) (ret := (some .int)) (by decide) rfl ?_
  intro p₀ e₀ s₀ m₀ args below meth c₀ s₁ B hml hv₀
  obtain ⟨rfl, hsz, hP, hK, hD0, hN⟩ := hv₀
  have hx₀ := B.exec
  have hb := B.bytes
  have hr := B.returns
  have hts := atoms_spec (ws := (kW yX12_flight cX12_flight 5 (some .int))) B.pre
  have hts := fun w h => hts w (List.mem_cons_of_mem _ h)
  have hown : s₀.vm.findClass RX12 = some m₀.cls := findClass_of_methodNamed B.named
  have hlocks := B.notSynchronized
  subst hsz
  have hD := hD0.self (sz := s₀.heap.size)
  generalize hAe : va_A [(kX12 hm vFo vSi vIt vMo la vBy vTy mi vMi pn vPs gn vGs fn vFt le vTo kn fe en ca an co vPr vSt vFn sn vSg vAl dr), (kAI vFt cI 32 qFt)] s₀.heap.size = A at hD ⊢
  have hA : ∀ q : Nat, s₀.heap.size ≤ q → A q := fun q h => by rw [← hAe]; exact Or.inr h
  have hS : va_S A s₀.heap s₀.heap [] := va_S.rf
  have hP : va_P (dC, dI) vwCl [(kX12 hm vFo vSi vIt vMo la vBy vTy mi vMi pn vPs gn vGs fn vFt le vTo kn fe en ca an co vPr vSt vFn sn vSg vAl dr), (kAI vFt cI 32 qFt)] s₀.heap := hP
  have hl := lv_entry ([.ref hm, .int p1, .int le1, .int ri1, .int h1]) (n := 5) (Nat.le_of_ble_eq_true rfl)
  rw [lg_entry_eq]
  generalize (lg_sl ([.ref hm, .int p1, .int le1, .int ri1, .int h1]) ++ List.replicate (5 - (lg_sl ([.ref hm, .int p1, .int le1, .int ri1, .int h1])).length) Slot.unset).toArray = ls at hl ⊢
  have hl : lv_has ls 5 [(0, .ref hm), (1, .int p1), (2, .int le1), (3, .int ri1), (4, .int h1)] := hl
  obtain ⟨H, hH⟩ : ∃ z : Heap, z = s₀.heap := ⟨_, rfl⟩
  rw [← hH] at hP
  have hS : va_S A s₀.heap H [] := by rw [hH]; exact hS
  refine k_heap hH ?_
  have hD : va_D A [(kX12 hm vFo vSi vIt vMo la vBy vTy mi vMi pn vPs gn vGs fn vFt le vTo kn fe en ca an co vPr vSt vFn sn vSg vAl dr), (kAI vFt cI 32 qFt)] := hD
  obtain ⟨locs, hlo⟩ : ∃ z : List Loc, z = [] := ⟨_, rfl⟩
  rw [← hlo] at hS ⊢
  clear hlo hH hAe hD0
  refine lv_iload_n hx₀ hb dX12_flight_0 rfl (lv_at hl 1 rfl) ?_
  refine lv_i2l hx₀ hb dX12_flight_1 rfl ?_
  refine lv_lconst (v := 0) hx₀ hb dX12_flight_2 (by decide +kernel) ?_
  refine lv_ldc2 (v := 7) hx₀ hb hown (hts (.constantLong RX12 155 (7)) wd_362) dX12_flight_3 ?_
  obtain ⟨hPc, hDc, hFc, hC⟩ := k_cw (wc := []) hP hD hS hA [] (by decide +kernel) rfl
  refine va_calli (va_runS (As := [.long p1.toInt64, .long 0, .long 7]) (rest := []) ⟨hx₀, hb, hml, hown, hts⟩ (c_in l dC dI cI cJ cQ H.size p1.toInt64 0 7) (va_cwS 3 hts (kGS wd_208 wd_206 wd_207 wd_5) rfl rfl rfl (by decide +kernel) ⟨Nat.le_of_ble_eq_true rfl, Nat.le_of_ble_eq_true rfl⟩) (k_preS hK hPc hDc hN) rfl rfl hl.1 rfl (lv_room (Nat.le_of_ble_eq_true rfl)) dX12_flight_6 ⟨by decide +kernel, by decide +kernel⟩) hS (fun q _ h => hFc q h) hFc (fun r_1 u₀ t₀ H1 locs ht hvm hw hB hz1 hk1 hS => ?_)
  obtain ⟨hP1, hK1, hD1⟩ := hB
  rw [ht] at hP1
  have hJ := k_jn (wr := [(kX12 hm vFo vSi vIt vMo la vBy vTy mi vMi pn vPs gn vGs fn vFt le vTo kn fe en ca an co vPr vSt vFn sn vSg vAl dr), (kAI vFt cI 32 qFt)]) (wt := [(kX12 hm vFo vSi vIt vMo la vBy vTy mi vMi pn vPs gn vGs fn vFt le vTo kn fe en ca an co vPr vSt vFn sn vSg vAl dr), (kAI vFt cI 32 qFt)]) hP hD hC [0, 1] rfl (by decide +kernel) (by decide +kernel) hk1 hFc hP1 hD1 rfl
  clear hP hD hPc hDc hFc hC hP1 hD1 hK1 hz1 hk1 hvm ht
  obtain ⟨hP, hD⟩ := hJ
  generalize H1 = H at hP hS ⊢
  try dsimp only at hw
  by_cases c_2 : (0 : Int64) ≤ p1.toInt64 ∧ p1.toInt64 ≤ (7 : Int64)
  · rw [if_pos c_2] at hw
    refine k_topi (v := 1) hw ?_
    refine lv_if_eq (tgt := 54) hx₀ hb dX12_flight_9 (by decide) (fun c9 => absurd c9 (by decide +kernel)) (fun _ => ?_)
    refine lv_iload_n hx₀ hb dX12_flight_12 rfl (lv_at hl 2 rfl) ?_
    refine lv_i2l hx₀ hb dX12_flight_13 rfl ?_
    refine lv_lconst (v := 0) hx₀ hb dX12_flight_14 (by decide +kernel) ?_
    refine lv_ldc2 (v := 7) hx₀ hb hown (hts (.constantLong RX12 155 (7)) wd_362) dX12_flight_15 ?_
    obtain ⟨hPc, hDc, hFc, hC⟩ := k_cw (wc := []) hP hD hS hA [] (by decide +kernel) rfl
    refine va_calli (va_runS (As := [.long le1.toInt64, .long 0, .long 7]) (rest := []) ⟨hx₀, hb, hml, hown, hts⟩ (c_in l dC dI cI cJ cQ H.size le1.toInt64 0 7) (va_cwS 3 hts (kGS wd_208 wd_206 wd_207 wd_5) rfl rfl rfl (by decide +kernel) ⟨Nat.le_of_ble_eq_true rfl, Nat.le_of_ble_eq_true rfl⟩) (k_preS hK hPc hDc hN) rfl rfl hl.1 rfl (lv_room (Nat.le_of_ble_eq_true rfl)) dX12_flight_18 ⟨by decide +kernel, by decide +kernel⟩) hS (fun q _ h => hFc q h) hFc (fun r_3 u₀ t₀ H1 locs ht hvm hw hB hz1 hk1 hS => ?_)
    obtain ⟨hP1, hK1, hD1⟩ := hB
    rw [ht] at hP1
    have hJ := k_jn (wr := [(kX12 hm vFo vSi vIt vMo la vBy vTy mi vMi pn vPs gn vGs fn vFt le vTo kn fe en ca an co vPr vSt vFn sn vSg vAl dr), (kAI vFt cI 32 qFt)]) (wt := [(kX12 hm vFo vSi vIt vMo la vBy vTy mi vMi pn vPs gn vGs fn vFt le vTo kn fe en ca an co vPr vSt vFn sn vSg vAl dr), (kAI vFt cI 32 qFt)]) hP hD hC [0, 1] rfl (by decide +kernel) (by decide +kernel) hk1 hFc hP1 hD1 rfl
    clear hP hD hPc hDc hFc hC hP1 hD1 hK1 hz1 hk1 hvm ht
    obtain ⟨hP, hD⟩ := hJ
    generalize H1 = H at hP hS ⊢
    try dsimp only at hw
    by_cases c_4 : (0 : Int64) ≤ le1.toInt64 ∧ le1.toInt64 ≤ (7 : Int64)
    · rw [if_pos c_4] at hw
      refine k_topi (v := 1) hw ?_
      refine lv_if_eq (tgt := 54) hx₀ hb dX12_flight_21 (by decide) (fun c9 => absurd c9 (by decide +kernel)) (fun _ => ?_)
      refine lv_iload_n hx₀ hb dX12_flight_24 rfl (lv_at hl 3 rfl) ?_
      refine lv_i2l hx₀ hb dX12_flight_25 rfl ?_
      refine lv_lconst (v := 0) hx₀ hb dX12_flight_26 (by decide +kernel) ?_
      refine lv_ldc2 (v := 7) hx₀ hb hown (hts (.constantLong RX12 155 (7)) wd_362) dX12_flight_27 ?_
      obtain ⟨hPc, hDc, hFc, hC⟩ := k_cw (wc := []) hP hD hS hA [] (by decide +kernel) rfl
      refine va_calli (va_runS (As := [.long ri1.toInt64, .long 0, .long 7]) (rest := []) ⟨hx₀, hb, hml, hown, hts⟩ (c_in l dC dI cI cJ cQ H.size ri1.toInt64 0 7) (va_cwS 3 hts (kGS wd_208 wd_206 wd_207 wd_5) rfl rfl rfl (by decide +kernel) ⟨Nat.le_of_ble_eq_true rfl, Nat.le_of_ble_eq_true rfl⟩) (k_preS hK hPc hDc hN) rfl rfl hl.1 rfl (lv_room (Nat.le_of_ble_eq_true rfl)) dX12_flight_30 ⟨by decide +kernel, by decide +kernel⟩) hS (fun q _ h => hFc q h) hFc (fun r_5 u₀ t₀ H1 locs ht hvm hw hB hz1 hk1 hS => ?_)
      obtain ⟨hP1, hK1, hD1⟩ := hB
      rw [ht] at hP1
      have hJ := k_jn (wr := [(kX12 hm vFo vSi vIt vMo la vBy vTy mi vMi pn vPs gn vGs fn vFt le vTo kn fe en ca an co vPr vSt vFn sn vSg vAl dr), (kAI vFt cI 32 qFt)]) (wt := [(kX12 hm vFo vSi vIt vMo la vBy vTy mi vMi pn vPs gn vGs fn vFt le vTo kn fe en ca an co vPr vSt vFn sn vSg vAl dr), (kAI vFt cI 32 qFt)]) hP hD hC [0, 1] rfl (by decide +kernel) (by decide +kernel) hk1 hFc hP1 hD1 rfl
      clear hP hD hPc hDc hFc hC hP1 hD1 hK1 hz1 hk1 hvm ht
      obtain ⟨hP, hD⟩ := hJ
      generalize H1 = H at hP hS ⊢
      try dsimp only at hw
      by_cases c_6 : (0 : Int64) ≤ ri1.toInt64 ∧ ri1.toInt64 ≤ (7 : Int64)
      · rw [if_pos c_6] at hw
        refine k_topi (v := 1) hw ?_
        refine lv_if_eq (tgt := 54) hx₀ hb dX12_flight_33 (by decide) (fun c9 => absurd c9 (by decide +kernel)) (fun _ => ?_)
        refine lv_iload_n hx₀ hb dX12_flight_36 rfl (lv_at hl 2 rfl) ?_
        refine lv_iload_n hx₀ hb dX12_flight_37 rfl (lv_at hl 3 rfl) ?_
        refine lv_icmp_eq (tgt := 54) hx₀ hb dX12_flight_38 (by decide) (fun c_7 => ?_) (fun c_7 => ?_)
        · refine lv_bipush (v := (-2)) hx₀ hb dX12_flight_54 (by decide +kernel) ?_
          obtain ⟨hP9, hD9⟩ := k_c2 (wc := [(kX12 hm vFo vSi vIt vMo la vBy vTy mi vMi pn vPs gn vGs fn vFt le vTo kn fe en ca an co vPr vSt vFn sn vSg vAl dr), (kAI vFt cI 32 qFt)]) hP hD [0, 1] (by decide +kernel) rfl
          exact W.iret (v := (-2)) hx₀ hb hr (fun t₀ ht hW => ⟨⟨(-2), (k_fn [fn], k_fa [qFt], k_fl [], k_fL [], k_fp []), rfl, ⟨(show ((-2) : Int32) = if 0 ≤ p1 ∧ p1 ≤ 7 ∧ 0 ≤ le1 ∧ le1 ≤ 7 ∧ 0 ≤ ri1 ∧ ri1 ≤ 7 ∧ ¬ le1 = ri1 ∧ 1 ≤ h1 ∧ h1 ≤ 9 then (if fn = 8 then -4 else fn + 1) else -2 from (if_neg (show ¬ (0 ≤ p1 ∧ p1 ≤ 7 ∧ 0 ≤ le1 ∧ le1 ≤ 7 ∧ 0 ≤ ri1 ∧ ri1 ≤ 7 ∧ ¬ le1 = ri1 ∧ 1 ≤ h1 ∧ h1 ≤ 9) from (fun z => (fun z => z c_7) z.2.2.2.2.2.2.1))).symm), hh0, hh1, (if_neg (show ¬ ((0 ≤ p1 ∧ p1 ≤ 7 ∧ 0 ≤ le1 ∧ le1 ≤ 7 ∧ 0 ≤ ri1 ∧ ri1 ≤ 7 ∧ ¬ le1 = ri1 ∧ 1 ≤ h1 ∧ h1 ≤ 9) ∧ ¬ fn = 8) from (fun z => (fun z => (fun z => z c_7) z.2.2.2.2.2.2.1) z.1))).symm, (if_neg (show ¬ ((0 ≤ p1 ∧ p1 ≤ 7 ∧ 0 ≤ le1 ∧ le1 ≤ 7 ∧ 0 ≤ ri1 ∧ ri1 ≤ 7 ∧ ¬ le1 = ri1 ∧ 1 ≤ h1 ∧ h1 ≤ 9) ∧ ¬ fn = 8) from (fun z => (fun z => (fun z => z c_7) z.2.2.2.2.2.2.1) z.1))).symm⟩, by rw [ht]; exact hP9, va_K.moved hW.alike hK, hD9⟩, hS.F ht⟩) hS.2.2 dX12_flight_56
        · refine lv_iload hx₀ hb dX12_flight_41 (lv_at hl 4 rfl) ?_
          refine lv_i2l hx₀ hb dX12_flight_43 rfl ?_
          refine lv_lconst (v := 1) hx₀ hb dX12_flight_44 (by decide +kernel) ?_
          refine lv_ldc2 (v := 9) hx₀ hb hown (hts (.constantLong RX12 157 (9)) wd_363) dX12_flight_45 ?_
          obtain ⟨hPc, hDc, hFc, hC⟩ := k_cw (wc := []) hP hD hS hA [] (by decide +kernel) rfl
          refine va_calli (va_runS (As := [.long h1.toInt64, .long 1, .long 9]) (rest := []) ⟨hx₀, hb, hml, hown, hts⟩ (c_in l dC dI cI cJ cQ H.size h1.toInt64 1 9) (va_cwS 3 hts (kGS wd_208 wd_206 wd_207 wd_5) rfl rfl rfl (by decide +kernel) ⟨Nat.le_of_ble_eq_true rfl, Nat.le_of_ble_eq_true rfl⟩) (k_preS hK hPc hDc hN) rfl rfl hl.1 rfl (lv_room (Nat.le_of_ble_eq_true rfl)) dX12_flight_48 ⟨by decide +kernel, by decide +kernel⟩) hS (fun q _ h => hFc q h) hFc (fun r_8 u₀ t₀ H1 locs ht hvm hw hB hz1 hk1 hS => ?_)
          obtain ⟨hP1, hK1, hD1⟩ := hB
          rw [ht] at hP1
          have hJ := k_jn (wr := [(kX12 hm vFo vSi vIt vMo la vBy vTy mi vMi pn vPs gn vGs fn vFt le vTo kn fe en ca an co vPr vSt vFn sn vSg vAl dr), (kAI vFt cI 32 qFt)]) (wt := [(kX12 hm vFo vSi vIt vMo la vBy vTy mi vMi pn vPs gn vGs fn vFt le vTo kn fe en ca an co vPr vSt vFn sn vSg vAl dr), (kAI vFt cI 32 qFt)]) hP hD hC [0, 1] rfl (by decide +kernel) (by decide +kernel) hk1 hFc hP1 hD1 rfl
          clear hP hD hPc hDc hFc hC hP1 hD1 hK1 hz1 hk1 hvm ht
          obtain ⟨hP, hD⟩ := hJ
          generalize H1 = H at hP hS ⊢
          try dsimp only at hw
          by_cases c_9 : (1 : Int64) ≤ h1.toInt64 ∧ h1.toInt64 ≤ (9 : Int64)
          · rw [if_pos c_9] at hw
            refine k_topi (v := 1) hw ?_
            refine lv_if_ne (tgt := 57) hx₀ hb dX12_flight_51 (by decide) (fun _ => ?_) (fun c9 => absurd c9 (by decide +kernel))
            refine lv_aload_n hx₀ hb dX12_flight_57 rfl (lv_at hl 0 rfl) ?_
            refine va_get (D := (dC, dI)) (ci := 11) (v := .int fn) (C := RX12) (T := TX12) (N := 30) hx₀ hb hts inlX12 hown hK hP 0 rfl rfl 13 (by decide) (hts (.fieldLink RX12 159 "BittenStickModel" "flights" "I") wd_364) (fun _ h9 => h9) rfl dX12_flight_58 ?_
            refine lv_bipush (v := 8) hx₀ hb dX12_flight_61 (by decide +kernel) ?_
            refine lv_icmp_ne (tgt := 69) hx₀ hb dX12_flight_63 (by decide) (fun c_10 => ?_) (fun c_10 => ?_)
            · refine lv_aload_n hx₀ hb dX12_flight_69 rfl (lv_at hl 0 rfl) ?_
              refine va_get (D := (dC, dI)) (ci := 11) (v := .ref vFt) (C := RX12) (T := TX12) (N := 30) hx₀ hb hts inlX12 hown hK hP 0 rfl rfl 14 (by decide) (hts (.fieldLink RX12 37 "BittenStickModel" "flight" "[I") wd_124) (fun _ h9 => h9) rfl dX12_flight_70 ?_
              refine lv_iconst (v := 4) hx₀ hb dX12_flight_73 (by decide +kernel) ?_
              refine lv_aload_n hx₀ hb dX12_flight_74 rfl (lv_at hl 0 rfl) ?_
              refine va_get (D := (dC, dI)) (ci := 11) (v := .int fn) (C := RX12) (T := TX12) (N := 30) hx₀ hb hts inlX12 hown hK hP 0 rfl rfl 13 (by decide) (hts (.fieldLink RX12 159 "BittenStickModel" "flights" "I") wd_364) (fun _ h9 => h9) rfl dX12_flight_75 ?_
              refine lv_imul hx₀ hb dX12_flight_78 ?_
              refine lv_iload_n hx₀ hb dX12_flight_79 rfl (lv_at hl 1 rfl) ?_
              refine va_iast hx₀ hb hK hP hD hS 1 0 rfl rfl (vp_in_iff.mpr (lf_g_flight_1 fn hh0 c_10)) dX12_flight_80 ?_
              clear hP hD hS
              intro H locs hP hD hS
              replace hP := k_w2 (wt := [(kX12 hm vFo vSi vIt vMo la vBy vTy mi vMi pn vPs gn vGs fn vFt le vTo kn fe en ca an co vPr vSt vFn sn vSg vAl dr), (kAI vFt cI 32 (upd qFt (4 * fn).toNatClampNeg p1))]) hP hD rfl
              replace hD := hP.2
              replace hP := hP.1
              refine lv_aload_n hx₀ hb dX12_flight_81 rfl (lv_at hl 0 rfl) ?_
              refine va_get (D := (dC, dI)) (ci := 11) (v := .ref vFt) (C := RX12) (T := TX12) (N := 30) hx₀ hb hts inlX12 hown hK hP 0 rfl rfl 14 (by decide) (hts (.fieldLink RX12 37 "BittenStickModel" "flight" "[I") wd_124) (fun _ h9 => h9) rfl dX12_flight_82 ?_
              refine lv_iconst (v := 4) hx₀ hb dX12_flight_85 (by decide +kernel) ?_
              refine lv_aload_n hx₀ hb dX12_flight_86 rfl (lv_at hl 0 rfl) ?_
              refine va_get (D := (dC, dI)) (ci := 11) (v := .int fn) (C := RX12) (T := TX12) (N := 30) hx₀ hb hts inlX12 hown hK hP 0 rfl rfl 13 (by decide) (hts (.fieldLink RX12 159 "BittenStickModel" "flights" "I") wd_364) (fun _ h9 => h9) rfl dX12_flight_87 ?_
              refine lv_imul hx₀ hb dX12_flight_90 ?_
              refine lv_iconst (v := 1) hx₀ hb dX12_flight_91 (by decide +kernel) ?_
              refine lv_iadd hx₀ hb dX12_flight_92 ?_
              refine lv_iload_n hx₀ hb dX12_flight_93 rfl (lv_at hl 2 rfl) ?_
              refine va_iast hx₀ hb hK hP hD hS 1 0 rfl rfl (vp_in_iff.mpr (lf_g_flight_2 fn hh0 c_10)) dX12_flight_94 ?_
              clear hP hD hS
              intro H locs hP hD hS
              replace hP := k_w2 (wt := [(kX12 hm vFo vSi vIt vMo la vBy vTy mi vMi pn vPs gn vGs fn vFt le vTo kn fe en ca an co vPr vSt vFn sn vSg vAl dr), (kAI vFt cI 32 (upd (upd qFt (4 * fn).toNatClampNeg p1) ((4 * fn) + 1).toNatClampNeg le1))]) hP hD rfl
              replace hD := hP.2
              replace hP := hP.1
              refine lv_aload_n hx₀ hb dX12_flight_95 rfl (lv_at hl 0 rfl) ?_
              refine va_get (D := (dC, dI)) (ci := 11) (v := .ref vFt) (C := RX12) (T := TX12) (N := 30) hx₀ hb hts inlX12 hown hK hP 0 rfl rfl 14 (by decide) (hts (.fieldLink RX12 37 "BittenStickModel" "flight" "[I") wd_124) (fun _ h9 => h9) rfl dX12_flight_96 ?_
              refine lv_iconst (v := 4) hx₀ hb dX12_flight_99 (by decide +kernel) ?_
              refine lv_aload_n hx₀ hb dX12_flight_100 rfl (lv_at hl 0 rfl) ?_
              refine va_get (D := (dC, dI)) (ci := 11) (v := .int fn) (C := RX12) (T := TX12) (N := 30) hx₀ hb hts inlX12 hown hK hP 0 rfl rfl 13 (by decide) (hts (.fieldLink RX12 159 "BittenStickModel" "flights" "I") wd_364) (fun _ h9 => h9) rfl dX12_flight_101 ?_
              refine lv_imul hx₀ hb dX12_flight_104 ?_
              refine lv_iconst (v := 2) hx₀ hb dX12_flight_105 (by decide +kernel) ?_
              refine lv_iadd hx₀ hb dX12_flight_106 ?_
              refine lv_iload_n hx₀ hb dX12_flight_107 rfl (lv_at hl 3 rfl) ?_
              refine va_iast hx₀ hb hK hP hD hS 1 0 rfl rfl (vp_in_iff.mpr (lf_g_flight_3 fn hh0 c_10)) dX12_flight_108 ?_
              clear hP hD hS
              intro H locs hP hD hS
              replace hP := k_w2 (wt := [(kX12 hm vFo vSi vIt vMo la vBy vTy mi vMi pn vPs gn vGs fn vFt le vTo kn fe en ca an co vPr vSt vFn sn vSg vAl dr), (kAI vFt cI 32 (upd (upd (upd qFt (4 * fn).toNatClampNeg p1) ((4 * fn) + 1).toNatClampNeg le1) ((4 * fn) + 2).toNatClampNeg ri1))]) hP hD rfl
              replace hD := hP.2
              replace hP := hP.1
              refine lv_aload_n hx₀ hb dX12_flight_109 rfl (lv_at hl 0 rfl) ?_
              refine va_get (D := (dC, dI)) (ci := 11) (v := .ref vFt) (C := RX12) (T := TX12) (N := 30) hx₀ hb hts inlX12 hown hK hP 0 rfl rfl 14 (by decide) (hts (.fieldLink RX12 37 "BittenStickModel" "flight" "[I") wd_124) (fun _ h9 => h9) rfl dX12_flight_110 ?_
              refine lv_iconst (v := 4) hx₀ hb dX12_flight_113 (by decide +kernel) ?_
              refine lv_aload_n hx₀ hb dX12_flight_114 rfl (lv_at hl 0 rfl) ?_
              refine va_get (D := (dC, dI)) (ci := 11) (v := .int fn) (C := RX12) (T := TX12) (N := 30) hx₀ hb hts inlX12 hown hK hP 0 rfl rfl 13 (by decide) (hts (.fieldLink RX12 159 "BittenStickModel" "flights" "I") wd_364) (fun _ h9 => h9) rfl dX12_flight_115 ?_
              refine lv_imul hx₀ hb dX12_flight_118 ?_
              refine lv_iconst (v := 3) hx₀ hb dX12_flight_119 (by decide +kernel) ?_
              refine lv_iadd hx₀ hb dX12_flight_120 ?_
              refine lv_iload hx₀ hb dX12_flight_121 (lv_at hl 4 rfl) ?_
              refine va_iast hx₀ hb hK hP hD hS 1 0 rfl rfl (vp_in_iff.mpr (lf_g_flight_4 fn hh0 c_10)) dX12_flight_123 ?_
              clear hP hD hS
              intro H locs hP hD hS
              replace hP := k_w2 (wt := [(kX12 hm vFo vSi vIt vMo la vBy vTy mi vMi pn vPs gn vGs fn vFt le vTo kn fe en ca an co vPr vSt vFn sn vSg vAl dr), (kAI vFt cI 32 (upd (upd (upd (upd qFt (4 * fn).toNatClampNeg p1) ((4 * fn) + 1).toNatClampNeg le1) ((4 * fn) + 2).toNatClampNeg ri1) ((4 * fn) + 3).toNatClampNeg h1))]) hP hD rfl
              replace hD := hP.2
              replace hP := hP.1
              refine lv_aload_n hx₀ hb dX12_flight_124 rfl (lv_at hl 0 rfl) ?_
              refine lv_dup hx₀ hb dX12_flight_125 rfl ?_
              refine va_get (D := (dC, dI)) (ci := 11) (v := .int fn) (C := RX12) (T := TX12) (N := 30) hx₀ hb hts inlX12 hown hK hP 0 rfl rfl 13 (by decide) (hts (.fieldLink RX12 159 "BittenStickModel" "flights" "I") wd_364) (fun _ h9 => h9) rfl dX12_flight_126 ?_
              refine lv_iconst (v := 1) hx₀ hb dX12_flight_129 (by decide +kernel) ?_
              refine lv_iadd hx₀ hb dX12_flight_130 ?_
              refine va_put (D := (dC, dI)) (ci := 11) (v := .int (fn + 1)) (ty := .int) (C := RX12) (T := TX12) (N := 30) hx₀ hb hts inlX12 tyX12 tyX12_ok nmX12 hown hK hP hD hS 0 rfl rfl 13 (by decide) (hts (.fieldLink RX12 159 "BittenStickModel" "flights" "I") wd_364) (fun _ h9 => h9) rfl (by decide +kernel) rfl rfl (Nat.le_of_ble_eq_true rfl) dX12_flight_131 ?_
              clear hP hD hS
              intro H locs hP hD hS
              replace hP := k_w2 (wt := [(kX12 hm vFo vSi vIt vMo la vBy vTy mi vMi pn vPs gn vGs (fn + 1) vFt le vTo kn fe en ca an co vPr vSt vFn sn vSg vAl dr), (kAI vFt cI 32 (upd (upd (upd (upd qFt (4 * fn).toNatClampNeg p1) ((4 * fn) + 1).toNatClampNeg le1) ((4 * fn) + 2).toNatClampNeg ri1) ((4 * fn) + 3).toNatClampNeg h1))]) hP hD rfl
              replace hD := hP.2
              replace hP := hP.1
              refine lv_aload_n hx₀ hb dX12_flight_134 rfl (lv_at hl 0 rfl) ?_
              refine va_get (D := (dC, dI)) (ci := 11) (v := .int (fn + 1)) (C := RX12) (T := TX12) (N := 30) hx₀ hb hts inlX12 hown hK hP 0 rfl rfl 13 (by decide) (hts (.fieldLink RX12 159 "BittenStickModel" "flights" "I") wd_364) (fun _ h9 => h9) rfl dX12_flight_135 ?_
              obtain ⟨hP9, hD9⟩ := k_c2 (wc := [(kX12 hm vFo vSi vIt vMo la vBy vTy mi vMi pn vPs gn vGs (fn + 1) vFt le vTo kn fe en ca an co vPr vSt vFn sn vSg vAl dr), (kAI vFt cI 32 (upd (upd (upd (upd qFt (4 * fn).toNatClampNeg p1) ((4 * fn) + 1).toNatClampNeg le1) ((4 * fn) + 2).toNatClampNeg ri1) ((4 * fn) + 3).toNatClampNeg h1))]) hP hD [0, 1] (by decide +kernel) rfl
              exact W.iret (v := fn + 1) hx₀ hb hr (fun t₀ ht hW => ⟨⟨fn + 1, (k_fn [(fn + 1)], k_fa [upd (upd (upd (upd qFt (4 * fn).toNatClampNeg p1) ((4 * fn) + 1).toNatClampNeg le1) ((4 * fn) + 2).toNatClampNeg ri1) ((4 * fn) + 3).toNatClampNeg h1], k_fl [], k_fL [], k_fp []), rfl, ⟨(show (fn + 1 : Int32) = if 0 ≤ p1 ∧ p1 ≤ 7 ∧ 0 ≤ le1 ∧ le1 ≤ 7 ∧ 0 ≤ ri1 ∧ ri1 ≤ 7 ∧ ¬ le1 = ri1 ∧ 1 ≤ h1 ∧ h1 ≤ 9 then (if fn = 8 then -4 else fn + 1) else -2 from (((if_neg (c_10)).symm).trans (if_pos (show 0 ≤ p1 ∧ p1 ≤ 7 ∧ 0 ≤ le1 ∧ le1 ≤ 7 ∧ 0 ≤ ri1 ∧ ri1 ≤ 7 ∧ ¬ le1 = ri1 ∧ 1 ≤ h1 ∧ h1 ≤ 9 from ⟨((k_64 (a := p1) (l := 0) (h := 7) (by decide) (by decide)).mp c_2).1, ((k_64 (a := p1) (l := 0) (h := 7) (by decide) (by decide)).mp c_2).2, ((k_64 (a := le1) (l := 0) (h := 7) (by decide) (by decide)).mp c_4).1, ((k_64 (a := le1) (l := 0) (h := 7) (by decide) (by decide)).mp c_4).2, ((k_64 (a := ri1) (l := 0) (h := 7) (by decide) (by decide)).mp c_6).1, ((k_64 (a := ri1) (l := 0) (h := 7) (by decide) (by decide)).mp c_6).2, c_7, ((k_64 (a := h1) (l := 1) (h := 9) (by decide) (by decide)).mp c_9).1, ((k_64 (a := h1) (l := 1) (h := 9) (by decide) (by decide)).mp c_9).2⟩)).symm)), (lf_g_flight_5 fn hh0 c_10), (k_bd_upd (k_bd_upd (k_bd_upd (k_bd_upd (hh1) (lf_g_flight_6 p1 c_2)) (lf_g_flight_7 le1 ri1 c_4 c_6 c_7)) (lf_g_flight_8 le1 ri1 c_4 c_6 c_7)) (lf_g_flight_9 h1 c_9)), (if_pos (show (0 ≤ p1 ∧ p1 ≤ 7 ∧ 0 ≤ le1 ∧ le1 ≤ 7 ∧ 0 ≤ ri1 ∧ ri1 ≤ 7 ∧ ¬ le1 = ri1 ∧ 1 ≤ h1 ∧ h1 ≤ 9) ∧ ¬ fn = 8 from ⟨⟨((k_64 (a := p1) (l := 0) (h := 7) (by decide) (by decide)).mp c_2).1, ((k_64 (a := p1) (l := 0) (h := 7) (by decide) (by decide)).mp c_2).2, ((k_64 (a := le1) (l := 0) (h := 7) (by decide) (by decide)).mp c_4).1, ((k_64 (a := le1) (l := 0) (h := 7) (by decide) (by decide)).mp c_4).2, ((k_64 (a := ri1) (l := 0) (h := 7) (by decide) (by decide)).mp c_6).1, ((k_64 (a := ri1) (l := 0) (h := 7) (by decide) (by decide)).mp c_6).2, c_7, ((k_64 (a := h1) (l := 1) (h := 9) (by decide) (by decide)).mp c_9).1, ((k_64 (a := h1) (l := 1) (h := 9) (by decide) (by decide)).mp c_9).2⟩, c_10⟩)).symm, (if_pos (show (0 ≤ p1 ∧ p1 ≤ 7 ∧ 0 ≤ le1 ∧ le1 ≤ 7 ∧ 0 ≤ ri1 ∧ ri1 ≤ 7 ∧ ¬ le1 = ri1 ∧ 1 ≤ h1 ∧ h1 ≤ 9) ∧ ¬ fn = 8 from ⟨⟨((k_64 (a := p1) (l := 0) (h := 7) (by decide) (by decide)).mp c_2).1, ((k_64 (a := p1) (l := 0) (h := 7) (by decide) (by decide)).mp c_2).2, ((k_64 (a := le1) (l := 0) (h := 7) (by decide) (by decide)).mp c_4).1, ((k_64 (a := le1) (l := 0) (h := 7) (by decide) (by decide)).mp c_4).2, ((k_64 (a := ri1) (l := 0) (h := 7) (by decide) (by decide)).mp c_6).1, ((k_64 (a := ri1) (l := 0) (h := 7) (by decide) (by decide)).mp c_6).2, c_7, ((k_64 (a := h1) (l := 1) (h := 9) (by decide) (by decide)).mp c_9).1, ((k_64 (a := h1) (l := 1) (h := 9) (by decide) (by decide)).mp c_9).2⟩, c_10⟩)).symm⟩, by rw [ht]; exact hP9, va_K.moved hW.alike hK, hD9⟩, hS.F ht⟩) hS.2.2 dX12_flight_138
            · refine lv_bipush (v := (-4)) hx₀ hb dX12_flight_66 (by decide +kernel) ?_
              obtain ⟨hP9, hD9⟩ := k_c2 (wc := [(kX12 hm vFo vSi vIt vMo la vBy vTy mi vMi pn vPs gn vGs fn vFt le vTo kn fe en ca an co vPr vSt vFn sn vSg vAl dr), (kAI vFt cI 32 qFt)]) hP hD [0, 1] (by decide +kernel) rfl
              exact W.iret (v := (-4)) hx₀ hb hr (fun t₀ ht hW => ⟨⟨(-4), (k_fn [fn], k_fa [qFt], k_fl [], k_fL [], k_fp []), rfl, ⟨(show ((-4) : Int32) = if 0 ≤ p1 ∧ p1 ≤ 7 ∧ 0 ≤ le1 ∧ le1 ≤ 7 ∧ 0 ≤ ri1 ∧ ri1 ≤ 7 ∧ ¬ le1 = ri1 ∧ 1 ≤ h1 ∧ h1 ≤ 9 then (if fn = 8 then -4 else fn + 1) else -2 from (((if_pos (c_10)).symm).trans (if_pos (show 0 ≤ p1 ∧ p1 ≤ 7 ∧ 0 ≤ le1 ∧ le1 ≤ 7 ∧ 0 ≤ ri1 ∧ ri1 ≤ 7 ∧ ¬ le1 = ri1 ∧ 1 ≤ h1 ∧ h1 ≤ 9 from ⟨((k_64 (a := p1) (l := 0) (h := 7) (by decide) (by decide)).mp c_2).1, ((k_64 (a := p1) (l := 0) (h := 7) (by decide) (by decide)).mp c_2).2, ((k_64 (a := le1) (l := 0) (h := 7) (by decide) (by decide)).mp c_4).1, ((k_64 (a := le1) (l := 0) (h := 7) (by decide) (by decide)).mp c_4).2, ((k_64 (a := ri1) (l := 0) (h := 7) (by decide) (by decide)).mp c_6).1, ((k_64 (a := ri1) (l := 0) (h := 7) (by decide) (by decide)).mp c_6).2, c_7, ((k_64 (a := h1) (l := 1) (h := 9) (by decide) (by decide)).mp c_9).1, ((k_64 (a := h1) (l := 1) (h := 9) (by decide) (by decide)).mp c_9).2⟩)).symm)), hh0, hh1, (if_neg (show ¬ ((0 ≤ p1 ∧ p1 ≤ 7 ∧ 0 ≤ le1 ∧ le1 ≤ 7 ∧ 0 ≤ ri1 ∧ ri1 ≤ 7 ∧ ¬ le1 = ri1 ∧ 1 ≤ h1 ∧ h1 ≤ 9) ∧ ¬ fn = 8) from (fun z => (fun z => z c_10) z.2))).symm, (if_neg (show ¬ ((0 ≤ p1 ∧ p1 ≤ 7 ∧ 0 ≤ le1 ∧ le1 ≤ 7 ∧ 0 ≤ ri1 ∧ ri1 ≤ 7 ∧ ¬ le1 = ri1 ∧ 1 ≤ h1 ∧ h1 ≤ 9) ∧ ¬ fn = 8) from (fun z => (fun z => z c_10) z.2))).symm⟩, by rw [ht]; exact hP9, va_K.moved hW.alike hK, hD9⟩, hS.F ht⟩) hS.2.2 dX12_flight_68
          rw [if_neg c_9] at hw
          refine k_topi (v := 0) hw ?_
          refine lv_if_ne (tgt := 57) hx₀ hb dX12_flight_51 (by decide) (fun c9 => absurd (by decide +kernel) c9) (fun _ => ?_)
          refine lv_bipush (v := (-2)) hx₀ hb dX12_flight_54 (by decide +kernel) ?_
          obtain ⟨hP9, hD9⟩ := k_c2 (wc := [(kX12 hm vFo vSi vIt vMo la vBy vTy mi vMi pn vPs gn vGs fn vFt le vTo kn fe en ca an co vPr vSt vFn sn vSg vAl dr), (kAI vFt cI 32 qFt)]) hP hD [0, 1] (by decide +kernel) rfl
          exact W.iret (v := (-2)) hx₀ hb hr (fun t₀ ht hW => ⟨⟨(-2), (k_fn [fn], k_fa [qFt], k_fl [], k_fL [], k_fp []), rfl, ⟨(show ((-2) : Int32) = if 0 ≤ p1 ∧ p1 ≤ 7 ∧ 0 ≤ le1 ∧ le1 ≤ 7 ∧ 0 ≤ ri1 ∧ ri1 ≤ 7 ∧ ¬ le1 = ri1 ∧ 1 ≤ h1 ∧ h1 ≤ 9 then (if fn = 8 then -4 else fn + 1) else -2 from (if_neg (show ¬ (0 ≤ p1 ∧ p1 ≤ 7 ∧ 0 ≤ le1 ∧ le1 ≤ 7 ∧ 0 ≤ ri1 ∧ ri1 ≤ 7 ∧ ¬ le1 = ri1 ∧ 1 ≤ h1 ∧ h1 ≤ 9) from (fun z => (fun z => c_9 ((k_64 (a := h1) (l := 1) (h := 9) (by decide) (by decide)).mpr z)) (And.intro z.2.2.2.2.2.2.2.1 z.2.2.2.2.2.2.2.2)))).symm), hh0, hh1, (if_neg (show ¬ ((0 ≤ p1 ∧ p1 ≤ 7 ∧ 0 ≤ le1 ∧ le1 ≤ 7 ∧ 0 ≤ ri1 ∧ ri1 ≤ 7 ∧ ¬ le1 = ri1 ∧ 1 ≤ h1 ∧ h1 ≤ 9) ∧ ¬ fn = 8) from (fun z => (fun z => (fun z => c_9 ((k_64 (a := h1) (l := 1) (h := 9) (by decide) (by decide)).mpr z)) (And.intro z.2.2.2.2.2.2.2.1 z.2.2.2.2.2.2.2.2)) z.1))).symm, (if_neg (show ¬ ((0 ≤ p1 ∧ p1 ≤ 7 ∧ 0 ≤ le1 ∧ le1 ≤ 7 ∧ 0 ≤ ri1 ∧ ri1 ≤ 7 ∧ ¬ le1 = ri1 ∧ 1 ≤ h1 ∧ h1 ≤ 9) ∧ ¬ fn = 8) from (fun z => (fun z => (fun z => c_9 ((k_64 (a := h1) (l := 1) (h := 9) (by decide) (by decide)).mpr z)) (And.intro z.2.2.2.2.2.2.2.1 z.2.2.2.2.2.2.2.2)) z.1))).symm⟩, by rw [ht]; exact hP9, va_K.moved hW.alike hK, hD9⟩, hS.F ht⟩) hS.2.2 dX12_flight_56
      rw [if_neg c_6] at hw
      refine k_topi (v := 0) hw ?_
      refine lv_if_eq (tgt := 54) hx₀ hb dX12_flight_33 (by decide) (fun _ => ?_) (fun c9 => absurd (by decide +kernel) c9)
      refine lv_bipush (v := (-2)) hx₀ hb dX12_flight_54 (by decide +kernel) ?_
      obtain ⟨hP9, hD9⟩ := k_c2 (wc := [(kX12 hm vFo vSi vIt vMo la vBy vTy mi vMi pn vPs gn vGs fn vFt le vTo kn fe en ca an co vPr vSt vFn sn vSg vAl dr), (kAI vFt cI 32 qFt)]) hP hD [0, 1] (by decide +kernel) rfl
      exact W.iret (v := (-2)) hx₀ hb hr (fun t₀ ht hW => ⟨⟨(-2), (k_fn [fn], k_fa [qFt], k_fl [], k_fL [], k_fp []), rfl, ⟨(show ((-2) : Int32) = if 0 ≤ p1 ∧ p1 ≤ 7 ∧ 0 ≤ le1 ∧ le1 ≤ 7 ∧ 0 ≤ ri1 ∧ ri1 ≤ 7 ∧ ¬ le1 = ri1 ∧ 1 ≤ h1 ∧ h1 ≤ 9 then (if fn = 8 then -4 else fn + 1) else -2 from (if_neg (show ¬ (0 ≤ p1 ∧ p1 ≤ 7 ∧ 0 ≤ le1 ∧ le1 ≤ 7 ∧ 0 ≤ ri1 ∧ ri1 ≤ 7 ∧ ¬ le1 = ri1 ∧ 1 ≤ h1 ∧ h1 ≤ 9) from (fun z => (fun z => c_6 ((k_64 (a := ri1) (l := 0) (h := 7) (by decide) (by decide)).mpr z)) (And.intro z.2.2.2.2.1 z.2.2.2.2.2.1)))).symm), hh0, hh1, (if_neg (show ¬ ((0 ≤ p1 ∧ p1 ≤ 7 ∧ 0 ≤ le1 ∧ le1 ≤ 7 ∧ 0 ≤ ri1 ∧ ri1 ≤ 7 ∧ ¬ le1 = ri1 ∧ 1 ≤ h1 ∧ h1 ≤ 9) ∧ ¬ fn = 8) from (fun z => (fun z => (fun z => c_6 ((k_64 (a := ri1) (l := 0) (h := 7) (by decide) (by decide)).mpr z)) (And.intro z.2.2.2.2.1 z.2.2.2.2.2.1)) z.1))).symm, (if_neg (show ¬ ((0 ≤ p1 ∧ p1 ≤ 7 ∧ 0 ≤ le1 ∧ le1 ≤ 7 ∧ 0 ≤ ri1 ∧ ri1 ≤ 7 ∧ ¬ le1 = ri1 ∧ 1 ≤ h1 ∧ h1 ≤ 9) ∧ ¬ fn = 8) from (fun z => (fun z => (fun z => c_6 ((k_64 (a := ri1) (l := 0) (h := 7) (by decide) (by decide)).mpr z)) (And.intro z.2.2.2.2.1 z.2.2.2.2.2.1)) z.1))).symm⟩, by rw [ht]; exact hP9, va_K.moved hW.alike hK, hD9⟩, hS.F ht⟩) hS.2.2 dX12_flight_56
    rw [if_neg c_4] at hw
    refine k_topi (v := 0) hw ?_
    refine lv_if_eq (tgt := 54) hx₀ hb dX12_flight_21 (by decide) (fun _ => ?_) (fun c9 => absurd (by decide +kernel) c9)
    refine lv_bipush (v := (-2)) hx₀ hb dX12_flight_54 (by decide +kernel) ?_
    obtain ⟨hP9, hD9⟩ := k_c2 (wc := [(kX12 hm vFo vSi vIt vMo la vBy vTy mi vMi pn vPs gn vGs fn vFt le vTo kn fe en ca an co vPr vSt vFn sn vSg vAl dr), (kAI vFt cI 32 qFt)]) hP hD [0, 1] (by decide +kernel) rfl
    exact W.iret (v := (-2)) hx₀ hb hr (fun t₀ ht hW => ⟨⟨(-2), (k_fn [fn], k_fa [qFt], k_fl [], k_fL [], k_fp []), rfl, ⟨(show ((-2) : Int32) = if 0 ≤ p1 ∧ p1 ≤ 7 ∧ 0 ≤ le1 ∧ le1 ≤ 7 ∧ 0 ≤ ri1 ∧ ri1 ≤ 7 ∧ ¬ le1 = ri1 ∧ 1 ≤ h1 ∧ h1 ≤ 9 then (if fn = 8 then -4 else fn + 1) else -2 from (if_neg (show ¬ (0 ≤ p1 ∧ p1 ≤ 7 ∧ 0 ≤ le1 ∧ le1 ≤ 7 ∧ 0 ≤ ri1 ∧ ri1 ≤ 7 ∧ ¬ le1 = ri1 ∧ 1 ≤ h1 ∧ h1 ≤ 9) from (fun z => (fun z => c_4 ((k_64 (a := le1) (l := 0) (h := 7) (by decide) (by decide)).mpr z)) (And.intro z.2.2.1 z.2.2.2.1)))).symm), hh0, hh1, (if_neg (show ¬ ((0 ≤ p1 ∧ p1 ≤ 7 ∧ 0 ≤ le1 ∧ le1 ≤ 7 ∧ 0 ≤ ri1 ∧ ri1 ≤ 7 ∧ ¬ le1 = ri1 ∧ 1 ≤ h1 ∧ h1 ≤ 9) ∧ ¬ fn = 8) from (fun z => (fun z => (fun z => c_4 ((k_64 (a := le1) (l := 0) (h := 7) (by decide) (by decide)).mpr z)) (And.intro z.2.2.1 z.2.2.2.1)) z.1))).symm, (if_neg (show ¬ ((0 ≤ p1 ∧ p1 ≤ 7 ∧ 0 ≤ le1 ∧ le1 ≤ 7 ∧ 0 ≤ ri1 ∧ ri1 ≤ 7 ∧ ¬ le1 = ri1 ∧ 1 ≤ h1 ∧ h1 ≤ 9) ∧ ¬ fn = 8) from (fun z => (fun z => (fun z => c_4 ((k_64 (a := le1) (l := 0) (h := 7) (by decide) (by decide)).mpr z)) (And.intro z.2.2.1 z.2.2.2.1)) z.1))).symm⟩, by rw [ht]; exact hP9, va_K.moved hW.alike hK, hD9⟩, hS.F ht⟩) hS.2.2 dX12_flight_56
  rw [if_neg c_2] at hw
  refine k_topi (v := 0) hw ?_
  refine lv_if_eq (tgt := 54) hx₀ hb dX12_flight_9 (by decide) (fun _ => ?_) (fun c9 => absurd (by decide +kernel) c9)
  refine lv_bipush (v := (-2)) hx₀ hb dX12_flight_54 (by decide +kernel) ?_
  obtain ⟨hP9, hD9⟩ := k_c2 (wc := [(kX12 hm vFo vSi vIt vMo la vBy vTy mi vMi pn vPs gn vGs fn vFt le vTo kn fe en ca an co vPr vSt vFn sn vSg vAl dr), (kAI vFt cI 32 qFt)]) hP hD [0, 1] (by decide +kernel) rfl
  exact W.iret (v := (-2)) hx₀ hb hr (fun t₀ ht hW => ⟨⟨(-2), (k_fn [fn], k_fa [qFt], k_fl [], k_fL [], k_fp []), rfl, ⟨(show ((-2) : Int32) = if 0 ≤ p1 ∧ p1 ≤ 7 ∧ 0 ≤ le1 ∧ le1 ≤ 7 ∧ 0 ≤ ri1 ∧ ri1 ≤ 7 ∧ ¬ le1 = ri1 ∧ 1 ≤ h1 ∧ h1 ≤ 9 then (if fn = 8 then -4 else fn + 1) else -2 from (if_neg (show ¬ (0 ≤ p1 ∧ p1 ≤ 7 ∧ 0 ≤ le1 ∧ le1 ≤ 7 ∧ 0 ≤ ri1 ∧ ri1 ≤ 7 ∧ ¬ le1 = ri1 ∧ 1 ≤ h1 ∧ h1 ≤ 9) from (fun z => (fun z => c_2 ((k_64 (a := p1) (l := 0) (h := 7) (by decide) (by decide)).mpr z)) (And.intro z.1 z.2.1)))).symm), hh0, hh1, (if_neg (show ¬ ((0 ≤ p1 ∧ p1 ≤ 7 ∧ 0 ≤ le1 ∧ le1 ≤ 7 ∧ 0 ≤ ri1 ∧ ri1 ≤ 7 ∧ ¬ le1 = ri1 ∧ 1 ≤ h1 ∧ h1 ≤ 9) ∧ ¬ fn = 8) from (fun z => (fun z => (fun z => c_2 ((k_64 (a := p1) (l := 0) (h := 7) (by decide) (by decide)).mpr z)) (And.intro z.1 z.2.1)) z.1))).symm, (if_neg (show ¬ ((0 ≤ p1 ∧ p1 ≤ 7 ∧ 0 ≤ le1 ∧ le1 ≤ 7 ∧ 0 ≤ ri1 ∧ ri1 ≤ 7 ∧ ¬ le1 = ri1 ∧ 1 ≤ h1 ∧ h1 ≤ 9) ∧ ¬ fn = 8) from (fun z => (fun z => (fun z => c_2 ((k_64 (a := p1) (l := 0) (h := 7) (by decide) (by decide)).mpr z)) (And.intro z.1 z.2.1)) z.1))).symm⟩, by rw [ht]; exact hP9, va_K.moved hW.alike hK, hD9⟩, hS.F ht⟩) hS.2.2 dX12_flight_56
theorem lf_g_back_1 (a0 : Int32) (h0 : 0 ≤ a0 ∧ a0 ≤ 8) (h1 : ¬ a0 = 0) : 0 ≤ (a0 - 1) ∧ (a0 - 1) ≤ 8 := by
  first | rfl | assumption | decide | exact Or.inl rfl | (first | rfl | assumption | decide | omega | (have hr0 := Int32.toInt_lt a0; have hs0 := Int32.le_toInt a0; simp only [Int64.toInt_add, Int64.toInt_sub, Int32.toInt_add, Int32.toInt_sub, Int32.toInt_mul, Int64.le_iff_toInt_le, Int64.lt_iff_toInt_lt, Int32.le_iff_toInt_le, Int32.lt_iff_toInt_lt, ← Int32.toInt_inj, ← Int64.toInt_inj, Int32.toInt_toInt64, kc_0, kc_1, kc_8, true_and, and_true, not_true_eq_false, not_false_eq_true] at * <;> ((first | omega | ((try simp (disch := omega) only [k_bm64] at *); (try simp (disch := omega) only [k_bm] at *); (try simp (disch := omega) only [k_bm] at *); omega) | (simp only [Int.bmod] at *; omega)))))
set_option maxHeartbeats 4000000 in
set_option maxRecDepth 100000 in
theorem g_back (l : Launch) (dC : Nat → ClassId) (dI : Nat → Nat → Nat) (cI cJ cQ : ClassId) (sz : Nat) (hm : Nat) (vFo : Nat) (vSi : Nat) (vIt : Nat) (vMo : Nat) (la : Int32) (vBy : Nat) (vTy : Nat) (mi : Int32) (vMi : Nat) (pn : Int32) (vPs : Nat) (gn : Int32) (vGs : Nat) (fn : Int32) (vFt : Nat) (le : Int32) (vTo : Nat) (kn : Int32) (fe : Int32) (en : Int32) (ca : Int32) (an : Int32) (co : Int32) (vPr : Nat) (vSt : Nat) (vFn : Nat) (sn : Int32) (vSg : Nat) (vAl : Nat) (dr : Int32) (hh0 : 0 ≤ fn ∧ fn ≤ 8) : Met l yX12_back (kW yX12_back cX12_back 1 (some .int)) { frames := 0, cells := 0, slots := 0, locals := 0 } (kPre dC dI cI cJ cQ sz [.ref hm] [(kX12 hm vFo vSi vIt vMo la vBy vTy mi vMi pn vPs gn vGs fn vFt le vTo kn fe en ca an co vPr vSt vFn sn vSg vAl dr)]) (va_Qi (fun (r : Int32) (u : kS) => (r = if fn = 0 then -3 else fn - 1) ∧ (0 ≤ (u.1 0) ∧ (u.1 0) ≤ 8) ∧ ((u.1 0) = if fn = 0 then fn else fn - 1)) (fun (u : kS) t₀ => kB dC dI cI cJ cQ (va_A [(kX12 hm vFo vSi vIt vMo la vBy vTy mi vMi pn vPs gn vGs fn vFt le vTo kn fe en ca an co vPr vSt vFn sn vSg vAl dr)] sz) [(kX12 hm vFo vSi vIt vMo la vBy vTy mi vMi pn vPs gn vGs (u.1 0) vFt le vTo kn fe en ca an co vPr vSt vFn sn vSg vAl dr)] t₀) (va_A [(kX12 hm vFo vSi vIt vMo la vBy vTy mi vMi pn vPs gn vGs fn vFt le vTo kn fe en ca an co vPr vSt vFn sn vSg vAl dr)] sz)) 0 0 (va_A [(kX12 hm vFo vSi vIt vMo la vBy vTy mi vMi pn vPs gn vGs fn vFt le vTo kn fe en ca an co vPr vSt vFn sn vSg vAl dr)] sz) := by
  refine Met.ofW (cc := cX12_back) (maxL := 1) (ret := (some .int)) (by decide) rfl ?_
  intro p₀ e₀ s₀ m₀ args below meth c₀ s₁ B hml hv₀
  obtain ⟨rfl, hsz, hP, hK, hD0, hN⟩ := hv₀
  have hx₀ := B.exec
  have hb := B.bytes
  have hr := B.returns
  have hts := atoms_spec (ws := (kW yX12_back cX12_back 1 (some .int))) B.pre
  have hts := fun w h => hts w (List.mem_cons_of_mem _ h)
  have hown : s₀.vm.findClass RX12 = some m₀.cls := findClass_of_methodNamed B.named
  have hlocks := B.notSynchronized
  subst hsz
  have hD := hD0.self (sz := s₀.heap.size)
  generalize hAe : va_A [(kX12 hm vFo vSi vIt vMo la vBy vTy mi vMi pn vPs gn vGs fn vFt le vTo kn fe en ca an co vPr vSt vFn sn vSg vAl dr)] s₀.heap.size = A at hD ⊢
  have hA : ∀ q : Nat, s₀.heap.size ≤ q → A q := fun q h => by rw [← hAe]; exact Or.inr h
  have hS : va_S A s₀.heap s₀.heap [] := va_S.rf
  have hP : va_P (dC, dI) vwCl [(kX12 hm vFo vSi vIt vMo la vBy vTy mi vMi pn vPs gn vGs fn vFt le vTo kn fe en ca an co vPr vSt vFn sn vSg vAl dr)] s₀.heap := hP
  have hl := lv_entry ([.ref hm]) (n := 1) (Nat.le_of_ble_eq_true rfl)
  rw [lg_entry_eq]
  generalize (lg_sl ([.ref hm]) ++ List.replicate (1 - (lg_sl ([.ref hm])).length) Slot.unset).toArray = ls at hl ⊢
  have hl : lv_has ls 1 [(0, .ref hm)] := hl
  obtain ⟨H, hH⟩ : ∃ z : Heap, z = s₀.heap := ⟨_, rfl⟩
  rw [← hH] at hP
  have hS : va_S A s₀.heap H [] := by rw [hH]; exact hS
  refine k_heap hH ?_
  have hD : va_D A [(kX12 hm vFo vSi vIt vMo la vBy vTy mi vMi pn vPs gn vGs fn vFt le vTo kn fe en ca an co vPr vSt vFn sn vSg vAl dr)] := hD
  obtain ⟨locs, hlo⟩ : ∃ z : List Loc, z = [] := ⟨_, rfl⟩
  rw [← hlo] at hS ⊢
  clear hlo hH hAe hD0
  refine lv_aload_n hx₀ hb dX12_back_0 rfl (lv_at hl 0 rfl) ?_
  refine va_get (D := (dC, dI)) (ci := 11) (v := .int fn) (C := RX12) (T := TX12) (N := 30) hx₀ hb hts inlX12 hown hK hP 0 rfl rfl 13 (by decide) (hts (.fieldLink RX12 159 "BittenStickModel" "flights" "I") wd_364) (fun _ h9 => h9) rfl dX12_back_1 ?_
  refine lv_if_ne (tgt := 10) hx₀ hb dX12_back_4 (by decide) (fun c_1 => ?_) (fun c_1 => ?_)
  · refine lv_aload_n hx₀ hb dX12_back_10 rfl (lv_at hl 0 rfl) ?_
    refine lv_dup hx₀ hb dX12_back_11 rfl ?_
    refine va_get (D := (dC, dI)) (ci := 11) (v := .int fn) (C := RX12) (T := TX12) (N := 30) hx₀ hb hts inlX12 hown hK hP 0 rfl rfl 13 (by decide) (hts (.fieldLink RX12 159 "BittenStickModel" "flights" "I") wd_364) (fun _ h9 => h9) rfl dX12_back_12 ?_
    refine lv_iconst (v := 1) hx₀ hb dX12_back_15 (by decide +kernel) ?_
    refine lv_isub hx₀ hb dX12_back_16 ?_
    refine va_put (D := (dC, dI)) (ci := 11) (v := .int (fn - 1)) (ty := .int) (C := RX12) (T := TX12) (N := 30) hx₀ hb hts inlX12 tyX12 tyX12_ok nmX12 hown hK hP hD hS 0 rfl rfl 13 (by decide) (hts (.fieldLink RX12 159 "BittenStickModel" "flights" "I") wd_364) (fun _ h9 => h9) rfl (by decide +kernel) rfl rfl (Nat.le_of_ble_eq_true rfl) dX12_back_17 ?_
    clear hP hD hS
    intro H locs hP hD hS
    replace hP := k_w2 (wt := [(kX12 hm vFo vSi vIt vMo la vBy vTy mi vMi pn vPs gn vGs (fn - 1) vFt le vTo kn fe en ca an co vPr vSt vFn sn vSg vAl dr)]) hP hD rfl
    replace hD := hP.2
    replace hP := hP.1
    refine lv_aload_n hx₀ hb dX12_back_20 rfl (lv_at hl 0 rfl) ?_
    refine va_get (D := (dC, dI)) (ci := 11) (v := .int (fn - 1)) (C := RX12) (T := TX12) (N := 30) hx₀ hb hts inlX12 hown hK hP 0 rfl rfl 13 (by decide) (hts (.fieldLink RX12 159 "BittenStickModel" "flights" "I") wd_364) (fun _ h9 => h9) rfl dX12_back_21 ?_
    obtain ⟨hP9, hD9⟩ := k_c2 (wc := [(kX12 hm vFo vSi vIt vMo la vBy vTy mi vMi pn vPs gn vGs (fn - 1) vFt le vTo kn fe en ca an co vPr vSt vFn sn vSg vAl dr)]) hP hD [0] (by decide +kernel) rfl
    exact W.iret (v := fn - 1) hx₀ hb hr (fun t₀ ht hW => ⟨⟨fn - 1, (k_fn [(fn - 1)], k_fa [], k_fl [], k_fL [], k_fp []), rfl, ⟨(show (fn - 1 : Int32) = if fn = 0 then -3 else fn - 1 from (if_neg (c_1)).symm), (lf_g_back_1 fn hh0 c_1), (show (fn - 1) = if fn = 0 then fn else fn - 1 from (if_neg (c_1)).symm)⟩, by rw [ht]; exact hP9, va_K.moved hW.alike hK, hD9⟩, hS.F ht⟩) hS.2.2 dX12_back_24
  · refine lv_bipush (v := (-3)) hx₀ hb dX12_back_7 (by decide +kernel) ?_
    obtain ⟨hP9, hD9⟩ := k_c2 (wc := [(kX12 hm vFo vSi vIt vMo la vBy vTy mi vMi pn vPs gn vGs fn vFt le vTo kn fe en ca an co vPr vSt vFn sn vSg vAl dr)]) hP hD [0] (by decide +kernel) rfl
    exact W.iret (v := (-3)) hx₀ hb hr (fun t₀ ht hW => ⟨⟨(-3), (k_fn [fn], k_fa [], k_fl [], k_fL [], k_fp []), rfl, ⟨(show ((-3) : Int32) = if fn = 0 then -3 else fn - 1 from (if_pos (c_1)).symm), hh0, (show fn = if fn = 0 then fn else fn - 1 from (if_pos (c_1)).symm)⟩, by rw [ht]; exact hP9, va_K.moved hW.alike hK, hD9⟩, hS.F ht⟩) hS.2.2 dX12_back_9
set_option maxHeartbeats 4000000 in
set_option maxRecDepth 100000 in
theorem g_learn (l : Launch) (dC : Nat → ClassId) (dI : Nat → Nat → Nat) (cI cJ cQ : ClassId) (sz : Nat) (hm : Nat) (kk : Int32) (vFo : Nat) (vSi : Nat) (vIt : Nat) (vMo : Nat) (la : Int32) (vBy : Nat) (vTy : Nat) (mi : Int32) (vMi : Nat) (pn : Int32) (vPs : Nat) (gn : Int32) (vGs : Nat) (fn : Int32) (vFt : Nat) (le : Int32) (vTo : Nat) (kn : Int32) (fe : Int32) (en : Int32) (ca : Int32) (an : Int32) (co : Int32) (vPr : Nat) (vSt : Nat) (vFn : Nat) (sn : Int32) (vSg : Nat) (vAl : Nat) (dr : Int32) : Met l yX12_learn (kW yX12_learn cX12_learn 3 (some .int)) { frames := 1, cells := 0, slots := 0, locals := 25 } (kPre dC dI cI cJ cQ sz [.ref hm, .int kk] [(kX12 hm vFo vSi vIt vMo la vBy vTy mi vMi pn vPs gn vGs fn vFt le vTo kn fe en ca an co vPr vSt vFn sn vSg vAl dr)]) (va_Qi (fun (r : Int32) (u : kS) => (r = if 0 ≤ kk ∧ kk ≤ 63 then le else -2) ∧ ((u.1 0) = if 0 ≤ kk ∧ kk ≤ 63 then kk else le)) (fun (u : kS) t₀ => kB dC dI cI cJ cQ (va_A [(kX12 hm vFo vSi vIt vMo la vBy vTy mi vMi pn vPs gn vGs fn vFt le vTo kn fe en ca an co vPr vSt vFn sn vSg vAl dr)] sz) [(kX12 hm vFo vSi vIt vMo la vBy vTy mi vMi pn vPs gn vGs fn vFt (u.1 0) vTo kn fe en ca an co vPr vSt vFn sn vSg vAl dr)] t₀) (va_A [(kX12 hm vFo vSi vIt vMo la vBy vTy mi vMi pn vPs gn vGs fn vFt le vTo kn fe en ca an co vPr vSt vFn sn vSg vAl dr)] sz)) 0 0 (va_A [(kX12 hm vFo vSi vIt vMo la vBy vTy mi vMi pn vPs gn vGs fn vFt le vTo kn fe en ca an co vPr vSt vFn sn vSg vAl dr)] sz) := by
  refine Met.ofW (cc := cX12_learn) (maxL := 3) (ret := (some .int)) (by decide) rfl ?_
  intro p₀ e₀ s₀ m₀ args below meth c₀ s₁ B hml hv₀
  obtain ⟨rfl, hsz, hP, hK, hD0, hN⟩ := hv₀
  have hx₀ := B.exec
  have hb := B.bytes
  have hr := B.returns
  have hts := atoms_spec (ws := (kW yX12_learn cX12_learn 3 (some .int))) B.pre
  have hts := fun w h => hts w (List.mem_cons_of_mem _ h)
  have hown : s₀.vm.findClass RX12 = some m₀.cls := findClass_of_methodNamed B.named
  have hlocks := B.notSynchronized
  subst hsz
  have hD := hD0.self (sz := s₀.heap.size)
  generalize hAe : va_A [(kX12 hm vFo vSi vIt vMo la vBy vTy mi vMi pn vPs gn vGs fn vFt le vTo kn fe en ca an co vPr vSt vFn sn vSg vAl dr)] s₀.heap.size = A at hD ⊢
  have hA : ∀ q : Nat, s₀.heap.size ≤ q → A q := fun q h => by rw [← hAe]; exact Or.inr h
  have hS : va_S A s₀.heap s₀.heap [] := va_S.rf
  have hP : va_P (dC, dI) vwCl [(kX12 hm vFo vSi vIt vMo la vBy vTy mi vMi pn vPs gn vGs fn vFt le vTo kn fe en ca an co vPr vSt vFn sn vSg vAl dr)] s₀.heap := hP
  have hl := lv_entry ([.ref hm, .int kk]) (n := 3) (Nat.le_of_ble_eq_true rfl)
  rw [lg_entry_eq]
  generalize (lg_sl ([.ref hm, .int kk]) ++ List.replicate (3 - (lg_sl ([.ref hm, .int kk])).length) Slot.unset).toArray = ls at hl ⊢
  have hl : lv_has ls 3 [(0, .ref hm), (1, .int kk)] := hl
  obtain ⟨H, hH⟩ : ∃ z : Heap, z = s₀.heap := ⟨_, rfl⟩
  rw [← hH] at hP
  have hS : va_S A s₀.heap H [] := by rw [hH]; exact hS
  refine k_heap hH ?_
  have hD : va_D A [(kX12 hm vFo vSi vIt vMo la vBy vTy mi vMi pn vPs gn vGs fn vFt le vTo kn fe en ca an co vPr vSt vFn sn vSg vAl dr)] := hD
  obtain ⟨locs, hlo⟩ : ∃ z : List Loc, z = [] := ⟨_, rfl⟩
  rw [← hlo] at hS ⊢
  clear hlo hH hAe hD0
  refine lv_iload_n hx₀ hb dX12_learn_0 rfl (lv_at hl 1 rfl) ?_
  refine lv_i2l hx₀ hb dX12_learn_1 rfl ?_
  refine lv_lconst (v := 0) hx₀ hb dX12_learn_2 (by decide +kernel) ?_
  refine lv_ldc2 (v := 63) hx₀ hb hown (hts (.constantLong RX12 165 (63)) wd_416) dX12_learn_3 ?_
  obtain ⟨hPc, hDc, hFc, hC⟩ := k_cw (wc := []) hP hD hS hA [] (by decide +kernel) rfl
  refine va_calli (va_runS (As := [.long kk.toInt64, .long 0, .long 63]) (rest := []) ⟨hx₀, hb, hml, hown, hts⟩ (c_in l dC dI cI cJ cQ H.size kk.toInt64 0 63) (va_cwS 3 hts (kGS wd_208 wd_206 wd_207 wd_5) rfl rfl rfl (by decide +kernel) ⟨Nat.le_of_ble_eq_true rfl, Nat.le_of_ble_eq_true rfl⟩) (k_preS hK hPc hDc hN) rfl rfl hl.1 rfl (lv_room (Nat.le_of_ble_eq_true rfl)) dX12_learn_6 ⟨by decide +kernel, by decide +kernel⟩) hS (fun q _ h => hFc q h) hFc (fun r_1 u₀ t₀ H1 locs ht hvm hw hB hz1 hk1 hS => ?_)
  obtain ⟨hP1, hK1, hD1⟩ := hB
  rw [ht] at hP1
  have hJ := k_jn (wr := [(kX12 hm vFo vSi vIt vMo la vBy vTy mi vMi pn vPs gn vGs fn vFt le vTo kn fe en ca an co vPr vSt vFn sn vSg vAl dr)]) (wt := [(kX12 hm vFo vSi vIt vMo la vBy vTy mi vMi pn vPs gn vGs fn vFt le vTo kn fe en ca an co vPr vSt vFn sn vSg vAl dr)]) hP hD hC [0] rfl (by decide +kernel) (by decide +kernel) hk1 hFc hP1 hD1 rfl
  clear hP hD hPc hDc hFc hC hP1 hD1 hK1 hz1 hk1 hvm ht
  obtain ⟨hP, hD⟩ := hJ
  generalize H1 = H at hP hS ⊢
  try dsimp only at hw
  by_cases c_2 : (0 : Int64) ≤ kk.toInt64 ∧ kk.toInt64 ≤ (63 : Int64)
  · rw [if_pos c_2] at hw
    refine k_topi (v := 1) hw ?_
    refine lv_if_ne (tgt := 15) hx₀ hb dX12_learn_9 (by decide) (fun _ => ?_) (fun c9 => absurd c9 (by decide +kernel))
    refine lv_aload_n hx₀ hb dX12_learn_15 rfl (lv_at hl 0 rfl) ?_
    refine va_get (D := (dC, dI)) (ci := 11) (v := .int le) (C := RX12) (T := TX12) (N := 30) hx₀ hb hts inlX12 hown hK hP 0 rfl rfl 15 (by decide) (hts (.fieldLink RX12 167 "BittenStickModel" "learned" "I") wd_417) (fun _ h9 => h9) rfl dX12_learn_16 ?_
    refine lv_istore_n (lv' := [(2, .int le), (0, .ref hm), (1, .int kk)]) hx₀ hb dX12_learn_19 rfl hl (by decide) rfl (fun ls hl => ?_)
    refine lv_aload_n hx₀ hb dX12_learn_20 rfl (lv_at hl 1 rfl) ?_
    refine lv_iload_n hx₀ hb dX12_learn_21 rfl (lv_at hl 2 rfl) ?_
    refine va_put (D := (dC, dI)) (ci := 11) (v := .int kk) (ty := .int) (C := RX12) (T := TX12) (N := 30) hx₀ hb hts inlX12 tyX12 tyX12_ok nmX12 hown hK hP hD hS 0 rfl rfl 15 (by decide) (hts (.fieldLink RX12 167 "BittenStickModel" "learned" "I") wd_417) (fun _ h9 => h9) rfl (by decide +kernel) rfl rfl (Nat.le_of_ble_eq_true rfl) dX12_learn_22 ?_
    clear hP hD hS
    intro H locs hP hD hS
    replace hP := k_w2 (wt := [(kX12 hm vFo vSi vIt vMo la vBy vTy mi vMi pn vPs gn vGs fn vFt kk vTo kn fe en ca an co vPr vSt vFn sn vSg vAl dr)]) hP hD rfl
    replace hD := hP.2
    replace hP := hP.1
    refine lv_iload_n hx₀ hb dX12_learn_25 rfl (lv_at hl 0 rfl) ?_
    obtain ⟨hP9, hD9⟩ := k_c2 (wc := [(kX12 hm vFo vSi vIt vMo la vBy vTy mi vMi pn vPs gn vGs fn vFt kk vTo kn fe en ca an co vPr vSt vFn sn vSg vAl dr)]) hP hD [0] (by decide +kernel) rfl
    exact W.iret (v := le) hx₀ hb hr (fun t₀ ht hW => ⟨⟨le, (k_fn [kk], k_fa [], k_fl [], k_fL [], k_fp []), rfl, ⟨(show (le : Int32) = if 0 ≤ kk ∧ kk ≤ 63 then le else -2 from (if_pos (show 0 ≤ kk ∧ kk ≤ 63 from ⟨((k_64 (a := kk) (l := 0) (h := 63) (by decide) (by decide)).mp c_2).1, ((k_64 (a := kk) (l := 0) (h := 63) (by decide) (by decide)).mp c_2).2⟩)).symm), (show kk = if 0 ≤ kk ∧ kk ≤ 63 then kk else le from (if_pos (show 0 ≤ kk ∧ kk ≤ 63 from ⟨((k_64 (a := kk) (l := 0) (h := 63) (by decide) (by decide)).mp c_2).1, ((k_64 (a := kk) (l := 0) (h := 63) (by decide) (by decide)).mp c_2).2⟩)).symm)⟩, by rw [ht]; exact hP9, va_K.moved hW.alike hK, hD9⟩, hS.F ht⟩) hS.2.2 dX12_learn_26
  rw [if_neg c_2] at hw
  refine k_topi (v := 0) hw ?_
  refine lv_if_ne (tgt := 15) hx₀ hb dX12_learn_9 (by decide) (fun c9 => absurd (by decide +kernel) c9) (fun _ => ?_)
  refine lv_bipush (v := (-2)) hx₀ hb dX12_learn_12 (by decide +kernel) ?_
  obtain ⟨hP9, hD9⟩ := k_c2 (wc := [(kX12 hm vFo vSi vIt vMo la vBy vTy mi vMi pn vPs gn vGs fn vFt le vTo kn fe en ca an co vPr vSt vFn sn vSg vAl dr)]) hP hD [0] (by decide +kernel) rfl
  exact W.iret (v := (-2)) hx₀ hb hr (fun t₀ ht hW => ⟨⟨(-2), (k_fn [le], k_fa [], k_fl [], k_fL [], k_fp []), rfl, ⟨(show ((-2) : Int32) = if 0 ≤ kk ∧ kk ≤ 63 then le else -2 from (if_neg (show ¬ (0 ≤ kk ∧ kk ≤ 63) from (fun z => (fun z => c_2 ((k_64 (a := kk) (l := 0) (h := 63) (by decide) (by decide)).mpr z)) (And.intro z.1 z.2)))).symm), (show le = if 0 ≤ kk ∧ kk ≤ 63 then kk else le from (if_neg (show ¬ (0 ≤ kk ∧ kk ≤ 63) from (fun z => (fun z => c_2 ((k_64 (a := kk) (l := 0) (h := 63) (by decide) (by decide)).mpr z)) (And.intro z.1 z.2)))).symm)⟩, by rw [ht]; exact hP9, va_K.moved hW.alike hK, hD9⟩, hS.F ht⟩) hS.2.2 dX12_learn_14
set_option maxHeartbeats 4000000 in
set_option maxRecDepth 100000 in
theorem g_forget (l : Launch) (dC : Nat → ClassId) (dI : Nat → Nat → Nat) (cI cJ cQ : ClassId) (sz : Nat) (hm : Nat) (vFo : Nat) (vSi : Nat) (vIt : Nat) (vMo : Nat) (la : Int32) (vBy : Nat) (vTy : Nat) (mi : Int32) (vMi : Nat) (pn : Int32) (vPs : Nat) (gn : Int32) (vGs : Nat) (fn : Int32) (vFt : Nat) (le : Int32) (vTo : Nat) (kn : Int32) (fe : Int32) (en : Int32) (ca : Int32) (an : Int32) (co : Int32) (vPr : Nat) (vSt : Nat) (vFn : Nat) (sn : Int32) (vSg : Nat) (vAl : Nat) (dr : Int32) : Met l yX12_forget (kW yX12_forget cX12_forget 2 (some .int)) { frames := 0, cells := 0, slots := 0, locals := 0 } (kPre dC dI cI cJ cQ sz [.ref hm] [(kX12 hm vFo vSi vIt vMo la vBy vTy mi vMi pn vPs gn vGs fn vFt le vTo kn fe en ca an co vPr vSt vFn sn vSg vAl dr)]) (va_Qi (fun (r : Int32) (u : kS) => (r = sn) ∧ ((u.1 0) = 0)) (fun (u : kS) t₀ => kB dC dI cI cJ cQ (va_A [(kX12 hm vFo vSi vIt vMo la vBy vTy mi vMi pn vPs gn vGs fn vFt le vTo kn fe en ca an co vPr vSt vFn sn vSg vAl dr)] sz) [(kX12 hm vFo vSi vIt vMo la vBy vTy mi vMi pn vPs gn vGs fn vFt le vTo kn fe en ca an co vPr vSt vFn (u.1 0) vSg vAl dr)] t₀) (va_A [(kX12 hm vFo vSi vIt vMo la vBy vTy mi vMi pn vPs gn vGs fn vFt le vTo kn fe en ca an co vPr vSt vFn sn vSg vAl dr)] sz)) 0 0 (va_A [(kX12 hm vFo vSi vIt vMo la vBy vTy mi vMi pn vPs gn vGs fn vFt le vTo kn fe en ca an co vPr vSt vFn sn vSg vAl dr)] sz) := by
  refine Met.ofW (cc := cX12_forget) (maxL := 2) (ret := (some .int)) (by decide) rfl ?_
  intro p₀ e₀ s₀ m₀ args below meth c₀ s₁ B hml hv₀
  obtain ⟨rfl, hsz, hP, hK, hD0, hN⟩ := hv₀
  have hx₀ := B.exec
  have hb := B.bytes
  have hr := B.returns
  have hts := atoms_spec (ws := (kW yX12_forget cX12_forget 2 (some .int))) B.pre
  have hts := fun w h => hts w (List.mem_cons_of_mem _ h)
  have hown : s₀.vm.findClass RX12 = some m₀.cls := findClass_of_methodNamed B.named
  have hlocks := B.notSynchronized
  subst hsz
  have hD := hD0.self (sz := s₀.heap.size)
  generalize hAe : va_A [(kX12 hm vFo vSi vIt vMo la vBy vTy mi vMi pn vPs gn vGs fn vFt le vTo kn fe en ca an co vPr vSt vFn sn vSg vAl dr)] s₀.heap.size = A at hD ⊢
  have hA : ∀ q : Nat, s₀.heap.size ≤ q → A q := fun q h => by rw [← hAe]; exact Or.inr h
  have hS : va_S A s₀.heap s₀.heap [] := va_S.rf
  have hP : va_P (dC, dI) vwCl [(kX12 hm vFo vSi vIt vMo la vBy vTy mi vMi pn vPs gn vGs fn vFt le vTo kn fe en ca an co vPr vSt vFn sn vSg vAl dr)] s₀.heap := hP
  have hl := lv_entry ([.ref hm]) (n := 2) (Nat.le_of_ble_eq_true rfl)
  rw [lg_entry_eq]
  generalize (lg_sl ([.ref hm]) ++ List.replicate (2 - (lg_sl ([.ref hm])).length) Slot.unset).toArray = ls at hl ⊢
  have hl : lv_has ls 2 [(0, .ref hm)] := hl
  obtain ⟨H, hH⟩ : ∃ z : Heap, z = s₀.heap := ⟨_, rfl⟩
  rw [← hH] at hP
  have hS : va_S A s₀.heap H [] := by rw [hH]; exact hS
  refine k_heap hH ?_
  have hD : va_D A [(kX12 hm vFo vSi vIt vMo la vBy vTy mi vMi pn vPs gn vGs fn vFt le vTo kn fe en ca an co vPr vSt vFn sn vSg vAl dr)] := hD
  obtain ⟨locs, hlo⟩ : ∃ z : List Loc, z = [] := ⟨_, rfl⟩
  rw [← hlo] at hS ⊢
  clear hlo hH hAe hD0
  refine lv_aload_n hx₀ hb dX12_forget_0 rfl (lv_at hl 0 rfl) ?_
  refine va_get (D := (dC, dI)) (ci := 11) (v := .int sn) (C := RX12) (T := TX12) (N := 30) hx₀ hb hts inlX12 hown hK hP 0 rfl rfl 26 (by decide) (hts (.fieldLink RX12 240 "BittenStickModel" "sights" "I") wd_696) (fun _ h9 => h9) rfl dX12_forget_1 ?_
  refine lv_istore_n (lv' := [(1, .int sn), (0, .ref hm)]) hx₀ hb dX12_forget_4 rfl hl (by decide) rfl (fun ls hl => ?_)
  refine lv_aload_n hx₀ hb dX12_forget_5 rfl (lv_at hl 1 rfl) ?_
  refine lv_iconst (v := 0) hx₀ hb dX12_forget_6 (by decide +kernel) ?_
  refine va_put (D := (dC, dI)) (ci := 11) (v := .int 0) (ty := .int) (C := RX12) (T := TX12) (N := 30) hx₀ hb hts inlX12 tyX12 tyX12_ok nmX12 hown hK hP hD hS 0 rfl rfl 26 (by decide) (hts (.fieldLink RX12 240 "BittenStickModel" "sights" "I") wd_696) (fun _ h9 => h9) rfl (by decide +kernel) rfl rfl (Nat.le_of_ble_eq_true rfl) dX12_forget_7 ?_
  clear hP hD hS
  intro H locs hP hD hS
  replace hP := k_w2 (wt := [(kX12 hm vFo vSi vIt vMo la vBy vTy mi vMi pn vPs gn vGs fn vFt le vTo kn fe en ca an co vPr vSt vFn 0 vSg vAl dr)]) hP hD rfl
  replace hD := hP.2
  replace hP := hP.1
  refine lv_iload_n hx₀ hb dX12_forget_10 rfl (lv_at hl 0 rfl) ?_
  obtain ⟨hP9, hD9⟩ := k_c2 (wc := [(kX12 hm vFo vSi vIt vMo la vBy vTy mi vMi pn vPs gn vGs fn vFt le vTo kn fe en ca an co vPr vSt vFn 0 vSg vAl dr)]) hP hD [0] (by decide +kernel) rfl
  exact W.iret (v := sn) hx₀ hb hr (fun t₀ ht hW => ⟨⟨sn, (k_fn [(0 : Int32)], k_fa [], k_fl [], k_fL [], k_fp []), rfl, ⟨rfl, rfl⟩, by rw [ht]; exact hP9, va_K.moved hW.alike hK, hD9⟩, hS.F ht⟩) hS.2.2 dX12_forget_11
theorem lf_g_seen_1 (a0 : Int32) (h0 : 0 ≤ a0 ∧ a0 ≤ 8) (h1 : ¬ a0 = 8) : 0 ≤ (2 * a0).toInt ∧ (2 * a0).toInt < 16 := by
  first | rfl | assumption | decide | exact Or.inl rfl | (first | omega | (have hr0 := Int32.toInt_lt a0; have hs0 := Int32.le_toInt a0; simp only [Int64.toInt_add, Int64.toInt_sub, Int32.toInt_add, Int32.toInt_sub, Int32.toInt_mul, Int64.le_iff_toInt_le, Int64.lt_iff_toInt_lt, Int32.le_iff_toInt_le, Int32.lt_iff_toInt_lt, ← Int32.toInt_inj, ← Int64.toInt_inj, Int32.toInt_toInt64, kc_0, kc_2, kc_8, kc_16] at *; (first | omega | ((try simp (disch := omega) only [k_bm64] at *); (try simp (disch := omega) only [k_bm] at *); (try simp (disch := omega) only [k_bm] at *); omega) | (simp only [Int.bmod] at *; omega))))
theorem lf_g_seen_2 (a0 : Int32) (h0 : 0 ≤ a0 ∧ a0 ≤ 8) (h1 : ¬ a0 = 8) : 0 ≤ ((2 * a0) + 1).toInt ∧ ((2 * a0) + 1).toInt < 16 := by
  first | rfl | assumption | decide | exact Or.inl rfl | (first | omega | (have hr0 := Int32.toInt_lt a0; have hs0 := Int32.le_toInt a0; simp only [Int64.toInt_add, Int64.toInt_sub, Int32.toInt_add, Int32.toInt_sub, Int32.toInt_mul, Int64.le_iff_toInt_le, Int64.lt_iff_toInt_lt, Int32.le_iff_toInt_le, Int32.lt_iff_toInt_lt, ← Int32.toInt_inj, ← Int64.toInt_inj, Int32.toInt_toInt64, kc_0, kc_1, kc_2, kc_8, kc_16] at *; (first | omega | ((try simp (disch := omega) only [k_bm64] at *); (try simp (disch := omega) only [k_bm] at *); (try simp (disch := omega) only [k_bm] at *); omega) | (simp only [Int.bmod] at *; omega))))
set_option maxHeartbeats 4000000 in
set_option maxRecDepth 100000 in
theorem g_seen (l : Launch) (dC : Nat → ClassId) (dI : Nat → Nat → Nat) (cI cJ cQ : ClassId) (sz : Nat) (hm : Nat) (f1 : Int32) (m1 : Int32) (vFo : Nat) (vSi : Nat) (vIt : Nat) (vMo : Nat) (la : Int32) (vBy : Nat) (vTy : Nat) (mi : Int32) (vMi : Nat) (pn : Int32) (vPs : Nat) (gn : Int32) (vGs : Nat) (fn : Int32) (vFt : Nat) (le : Int32) (vTo : Nat) (kn : Int32) (fe : Int32) (en : Int32) (ca : Int32) (an : Int32) (co : Int32) (vPr : Nat) (vSt : Nat) (vFn : Nat) (sn : Int32) (vSg : Nat) (vAl : Nat) (dr : Int32) (qSg : Nat → Int32) (hh0 : 0 ≤ sn ∧ sn ≤ 8) : Met l yX12_seen (kW yX12_seen cX12_seen 3 (some .int)) { frames := 1, cells := 0, slots := 0, locals := 25 } (kPre dC dI cI cJ cQ sz [.ref hm, .int f1, .int m1] [(kX12 hm vFo vSi vIt vMo la vBy vTy mi vMi pn vPs gn vGs fn vFt le vTo kn fe en ca an co vPr vSt vFn sn vSg vAl dr), (kAI vSg cI 16 qSg)]) (va_Qi (fun (r : Int32) (u : kS) => (r = if 0 ≤ f1 ∧ f1 ≤ 7 ∧ 0 ≤ m1 ∧ m1 ≤ 24 then (if sn = 8 then -4 else sn + 1) else -2) ∧ ((u.1 0) = if 0 ≤ f1 ∧ f1 ≤ 7 ∧ 0 ≤ m1 ∧ m1 ≤ 24 ∧ ¬ sn = 8 then sn + 1 else sn)) (fun (u : kS) t₀ => kB dC dI cI cJ cQ (va_A [(kX12 hm vFo vSi vIt vMo la vBy vTy mi vMi pn vPs gn vGs fn vFt le vTo kn fe en ca an co vPr vSt vFn sn vSg vAl dr), (kAI vSg cI 16 qSg)] sz) [(kX12 hm vFo vSi vIt vMo la vBy vTy mi vMi pn vPs gn vGs fn vFt le vTo kn fe en ca an co vPr vSt vFn (u.1 0) vSg vAl dr), (kAI vSg cI 16 (u.2.1 0))] t₀) (va_A [(kX12 hm vFo vSi vIt vMo la vBy vTy mi vMi pn vPs gn vGs fn vFt le vTo kn fe en ca an co vPr vSt vFn sn vSg vAl dr), (kAI vSg cI 16 qSg)] sz)) 0 0 (va_A [(kX12 hm vFo vSi vIt vMo la vBy vTy mi vMi pn vPs gn vGs fn vFt le vTo kn fe en ca an co vPr vSt vFn sn vSg vAl dr), (kAI vSg cI 16 qSg)] sz) := by
  refine Met.ofW (cc := cX12_seen) (maxL := 3) (ret := (some .int)) (by decide) rfl ?_
  intro p₀ e₀ s₀ m₀ args below meth c₀ s₁ B hml hv₀
  obtain ⟨rfl, hsz, hP, hK, hD0, hN⟩ := hv₀
  have hx₀ := B.exec
  have hb := B.bytes
  have hr := B.returns
  have hts := atoms_spec (ws := (kW yX12_seen cX12_seen 3 (some .int))) B.pre
  have hts := fun w h => hts w (List.mem_cons_of_mem _ h)
  have hown : s₀.vm.findClass RX12 = some m₀.cls := findClass_of_methodNamed B.named
  have hlocks := B.notSynchronized
  subst hsz
  have hD := hD0.self (sz := s₀.heap.size)
  generalize hAe : va_A [(kX12 hm vFo vSi vIt vMo la vBy vTy mi vMi pn vPs gn vGs fn vFt le vTo kn fe en ca an co vPr vSt vFn sn vSg vAl dr), (kAI vSg cI 16 qSg)] s₀.heap.size = A at hD ⊢
  have hA : ∀ q : Nat, s₀.heap.size ≤ q → A q := fun q h => by rw [← hAe]; exact Or.inr h
  have hS : va_S A s₀.heap s₀.heap [] := va_S.rf
  have hP : va_P (dC, dI) vwCl [(kX12 hm vFo vSi vIt vMo la vBy vTy mi vMi pn vPs gn vGs fn vFt le vTo kn fe en ca an co vPr vSt vFn sn vSg vAl dr), (kAI vSg cI 16 qSg)] s₀.heap := hP
  have hl := lv_entry ([.ref hm, .int f1, .int m1]) (n := 3) (Nat.le_of_ble_eq_true rfl)
  rw [lg_entry_eq]
  generalize (lg_sl ([.ref hm, .int f1, .int m1]) ++ List.replicate (3 - (lg_sl ([.ref hm, .int f1, .int m1])).length) Slot.unset).toArray = ls at hl ⊢
  have hl : lv_has ls 3 [(0, .ref hm), (1, .int f1), (2, .int m1)] := hl
  obtain ⟨H, hH⟩ : ∃ z : Heap, z = s₀.heap := ⟨_, rfl⟩
  rw [← hH] at hP
  have hS : va_S A s₀.heap H [] := by rw [hH]; exact hS
  refine k_heap hH ?_
  have hD : va_D A [(kX12 hm vFo vSi vIt vMo la vBy vTy mi vMi pn vPs gn vGs fn vFt le vTo kn fe en ca an co vPr vSt vFn sn vSg vAl dr), (kAI vSg cI 16 qSg)] := hD
  obtain ⟨locs, hlo⟩ : ∃ z : List Loc, z = [] := ⟨_, rfl⟩
  rw [← hlo] at hS ⊢
  clear hlo hH hAe hD0
  refine lv_iload_n hx₀ hb dX12_seen_0 rfl (lv_at hl 1 rfl) ?_
  refine lv_i2l hx₀ hb dX12_seen_1 rfl ?_
  refine lv_lconst (v := 0) hx₀ hb dX12_seen_2 (by decide +kernel) ?_
  refine lv_ldc2 (v := 7) hx₀ hb hown (hts (.constantLong RX12 155 (7)) wd_362) dX12_seen_3 ?_
  obtain ⟨hPc, hDc, hFc, hC⟩ := k_cw (wc := []) hP hD hS hA [] (by decide +kernel) rfl
  refine va_calli (va_runS (As := [.long f1.toInt64, .long 0, .long 7]) (rest := []) ⟨hx₀, hb, hml, hown, hts⟩ (c_in l dC dI cI cJ cQ H.size f1.toInt64 0 7) (va_cwS 3 hts (kGS wd_208 wd_206 wd_207 wd_5) rfl rfl rfl (by decide +kernel) ⟨Nat.le_of_ble_eq_true rfl, Nat.le_of_ble_eq_true rfl⟩) (k_preS hK hPc hDc hN) rfl rfl hl.1 rfl (lv_room (Nat.le_of_ble_eq_true rfl)) dX12_seen_6 ⟨by decide +kernel, by decide +kernel⟩) hS (fun q _ h => hFc q h) hFc (fun r_1 u₀ t₀ H1 locs ht hvm hw hB hz1 hk1 hS => ?_)
  obtain ⟨hP1, hK1, hD1⟩ := hB
  rw [ht] at hP1
  have hJ := k_jn (wr := [(kX12 hm vFo vSi vIt vMo la vBy vTy mi vMi pn vPs gn vGs fn vFt le vTo kn fe en ca an co vPr vSt vFn sn vSg vAl dr), (kAI vSg cI 16 qSg)]) (wt := [(kX12 hm vFo vSi vIt vMo la vBy vTy mi vMi pn vPs gn vGs fn vFt le vTo kn fe en ca an co vPr vSt vFn sn vSg vAl dr), (kAI vSg cI 16 qSg)]) hP hD hC [0, 1] rfl (by decide +kernel) (by decide +kernel) hk1 hFc hP1 hD1 rfl
  clear hP hD hPc hDc hFc hC hP1 hD1 hK1 hz1 hk1 hvm ht
  obtain ⟨hP, hD⟩ := hJ
  generalize H1 = H at hP hS ⊢
  try dsimp only at hw
  by_cases c_2 : (0 : Int64) ≤ f1.toInt64 ∧ f1.toInt64 ≤ (7 : Int64)
  · rw [if_pos c_2] at hw
    refine k_topi (v := 1) hw ?_
    refine lv_if_eq (tgt := 24) hx₀ hb dX12_seen_9 (by decide) (fun c9 => absurd c9 (by decide +kernel)) (fun _ => ?_)
    refine lv_iload_n hx₀ hb dX12_seen_12 rfl (lv_at hl 2 rfl) ?_
    refine lv_i2l hx₀ hb dX12_seen_13 rfl ?_
    refine lv_lconst (v := 0) hx₀ hb dX12_seen_14 (by decide +kernel) ?_
    refine lv_ldc2 (v := 24) hx₀ hb hown (hts (.constantLong RX12 238 (24)) wd_695) dX12_seen_15 ?_
    obtain ⟨hPc, hDc, hFc, hC⟩ := k_cw (wc := []) hP hD hS hA [] (by decide +kernel) rfl
    refine va_calli (va_runS (As := [.long m1.toInt64, .long 0, .long 24]) (rest := []) ⟨hx₀, hb, hml, hown, hts⟩ (c_in l dC dI cI cJ cQ H.size m1.toInt64 0 24) (va_cwS 3 hts (kGS wd_208 wd_206 wd_207 wd_5) rfl rfl rfl (by decide +kernel) ⟨Nat.le_of_ble_eq_true rfl, Nat.le_of_ble_eq_true rfl⟩) (k_preS hK hPc hDc hN) rfl rfl hl.1 rfl (lv_room (Nat.le_of_ble_eq_true rfl)) dX12_seen_18 ⟨by decide +kernel, by decide +kernel⟩) hS (fun q _ h => hFc q h) hFc (fun r_3 u₀ t₀ H1 locs ht hvm hw hB hz1 hk1 hS => ?_)
    obtain ⟨hP1, hK1, hD1⟩ := hB
    rw [ht] at hP1
    have hJ := k_jn (wr := [(kX12 hm vFo vSi vIt vMo la vBy vTy mi vMi pn vPs gn vGs fn vFt le vTo kn fe en ca an co vPr vSt vFn sn vSg vAl dr), (kAI vSg cI 16 qSg)]) (wt := [(kX12 hm vFo vSi vIt vMo la vBy vTy mi vMi pn vPs gn vGs fn vFt le vTo kn fe en ca an co vPr vSt vFn sn vSg vAl dr), (kAI vSg cI 16 qSg)]) hP hD hC [0, 1] rfl (by decide +kernel) (by decide +kernel) hk1 hFc hP1 hD1 rfl
    clear hP hD hPc hDc hFc hC hP1 hD1 hK1 hz1 hk1 hvm ht
    obtain ⟨hP, hD⟩ := hJ
    generalize H1 = H at hP hS ⊢
    try dsimp only at hw
    by_cases c_4 : (0 : Int64) ≤ m1.toInt64 ∧ m1.toInt64 ≤ (24 : Int64)
    · rw [if_pos c_4] at hw
      refine k_topi (v := 1) hw ?_
      refine lv_if_ne (tgt := 27) hx₀ hb dX12_seen_21 (by decide) (fun _ => ?_) (fun c9 => absurd c9 (by decide +kernel))
      refine lv_aload_n hx₀ hb dX12_seen_27 rfl (lv_at hl 0 rfl) ?_
      refine va_get (D := (dC, dI)) (ci := 11) (v := .int sn) (C := RX12) (T := TX12) (N := 30) hx₀ hb hts inlX12 hown hK hP 0 rfl rfl 26 (by decide) (hts (.fieldLink RX12 240 "BittenStickModel" "sights" "I") wd_696) (fun _ h9 => h9) rfl dX12_seen_28 ?_
      refine lv_bipush (v := 8) hx₀ hb dX12_seen_31 (by decide +kernel) ?_
      refine lv_icmp_ne (tgt := 39) hx₀ hb dX12_seen_33 (by decide) (fun c_5 => ?_) (fun c_5 => ?_)
      · refine lv_aload_n hx₀ hb dX12_seen_39 rfl (lv_at hl 0 rfl) ?_
        refine va_get (D := (dC, dI)) (ci := 11) (v := .ref vSg) (C := RX12) (T := TX12) (N := 30) hx₀ hb hts inlX12 hown hK hP 0 rfl rfl 27 (by decide) (hts (.fieldLink RX12 52 "BittenStickModel" "sight" "[I") wd_129) (fun _ h9 => h9) rfl dX12_seen_40 ?_
        refine lv_iconst (v := 2) hx₀ hb dX12_seen_43 (by decide +kernel) ?_
        refine lv_aload_n hx₀ hb dX12_seen_44 rfl (lv_at hl 0 rfl) ?_
        refine va_get (D := (dC, dI)) (ci := 11) (v := .int sn) (C := RX12) (T := TX12) (N := 30) hx₀ hb hts inlX12 hown hK hP 0 rfl rfl 26 (by decide) (hts (.fieldLink RX12 240 "BittenStickModel" "sights" "I") wd_696) (fun _ h9 => h9) rfl dX12_seen_45 ?_
        refine lv_imul hx₀ hb dX12_seen_48 ?_
        refine lv_iload_n hx₀ hb dX12_seen_49 rfl (lv_at hl 1 rfl) ?_
        refine va_iast hx₀ hb hK hP hD hS 1 0 rfl rfl (vp_in_iff.mpr (lf_g_seen_1 sn hh0 c_5)) dX12_seen_50 ?_
        clear hP hD hS
        intro H locs hP hD hS
        obtain ⟨f_6, hf_6⟩ : ∃ z : Nat → Int32, z = upd qSg (2 * sn).toNatClampNeg f1 := ⟨_, rfl⟩
        replace hP : va_P (dC, dI) vwCl [(kX12 hm vFo vSi vIt vMo la vBy vTy mi vMi pn vPs gn vGs fn vFt le vTo kn fe en ca an co vPr vSt vFn sn vSg vAl dr), (kAI vSg cI 16 f_6)] H := by rw [hf_6]; exact hP
        replace hD : va_D A [(kX12 hm vFo vSi vIt vMo la vBy vTy mi vMi pn vPs gn vGs fn vFt le vTo kn fe en ca an co vPr vSt vFn sn vSg vAl dr), (kAI vSg cI 16 f_6)] := by rw [hf_6]; exact hD
        clear hf_6
        refine lv_aload_n hx₀ hb dX12_seen_51 rfl (lv_at hl 0 rfl) ?_
        refine va_get (D := (dC, dI)) (ci := 11) (v := .ref vSg) (C := RX12) (T := TX12) (N := 30) hx₀ hb hts inlX12 hown hK hP 0 rfl rfl 27 (by decide) (hts (.fieldLink RX12 52 "BittenStickModel" "sight" "[I") wd_129) (fun _ h9 => h9) rfl dX12_seen_52 ?_
        refine lv_iconst (v := 2) hx₀ hb dX12_seen_55 (by decide +kernel) ?_
        refine lv_aload_n hx₀ hb dX12_seen_56 rfl (lv_at hl 0 rfl) ?_
        refine va_get (D := (dC, dI)) (ci := 11) (v := .int sn) (C := RX12) (T := TX12) (N := 30) hx₀ hb hts inlX12 hown hK hP 0 rfl rfl 26 (by decide) (hts (.fieldLink RX12 240 "BittenStickModel" "sights" "I") wd_696) (fun _ h9 => h9) rfl dX12_seen_57 ?_
        refine lv_imul hx₀ hb dX12_seen_60 ?_
        refine lv_iconst (v := 1) hx₀ hb dX12_seen_61 (by decide +kernel) ?_
        refine lv_iadd hx₀ hb dX12_seen_62 ?_
        refine lv_iload_n hx₀ hb dX12_seen_63 rfl (lv_at hl 2 rfl) ?_
        refine va_iast hx₀ hb hK hP hD hS 1 0 rfl rfl (vp_in_iff.mpr (lf_g_seen_2 sn hh0 c_5)) dX12_seen_64 ?_
        clear hP hD hS
        intro H locs hP hD hS
        obtain ⟨f_7, hf_7⟩ : ∃ z : Nat → Int32, z = upd f_6 ((2 * sn) + 1).toNatClampNeg m1 := ⟨_, rfl⟩
        replace hP : va_P (dC, dI) vwCl [(kX12 hm vFo vSi vIt vMo la vBy vTy mi vMi pn vPs gn vGs fn vFt le vTo kn fe en ca an co vPr vSt vFn sn vSg vAl dr), (kAI vSg cI 16 f_7)] H := by rw [hf_7]; exact hP
        replace hD : va_D A [(kX12 hm vFo vSi vIt vMo la vBy vTy mi vMi pn vPs gn vGs fn vFt le vTo kn fe en ca an co vPr vSt vFn sn vSg vAl dr), (kAI vSg cI 16 f_7)] := by rw [hf_7]; exact hD
        clear hf_7
        refine lv_aload_n hx₀ hb dX12_seen_65 rfl (lv_at hl 0 rfl) ?_
        refine lv_dup hx₀ hb dX12_seen_66 rfl ?_
        refine va_get (D := (dC, dI)) (ci := 11) (v := .int sn) (C := RX12) (T := TX12) (N := 30) hx₀ hb hts inlX12 hown hK hP 0 rfl rfl 26 (by decide) (hts (.fieldLink RX12 240 "BittenStickModel" "sights" "I") wd_696) (fun _ h9 => h9) rfl dX12_seen_67 ?_
        refine lv_iconst (v := 1) hx₀ hb dX12_seen_70 (by decide +kernel) ?_
        refine lv_iadd hx₀ hb dX12_seen_71 ?_
        refine va_put (D := (dC, dI)) (ci := 11) (v := .int (sn + 1)) (ty := .int) (C := RX12) (T := TX12) (N := 30) hx₀ hb hts inlX12 tyX12 tyX12_ok nmX12 hown hK hP hD hS 0 rfl rfl 26 (by decide) (hts (.fieldLink RX12 240 "BittenStickModel" "sights" "I") wd_696) (fun _ h9 => h9) rfl (by decide +kernel) rfl rfl (Nat.le_of_ble_eq_true rfl) dX12_seen_72 ?_
        clear hP hD hS
        intro H locs hP hD hS
        replace hP := k_w2 (wt := [(kX12 hm vFo vSi vIt vMo la vBy vTy mi vMi pn vPs gn vGs fn vFt le vTo kn fe en ca an co vPr vSt vFn (sn + 1) vSg vAl dr), (kAI vSg cI 16 f_7)]) hP hD rfl
        replace hD := hP.2
        replace hP := hP.1
        refine lv_aload_n hx₀ hb dX12_seen_75 rfl (lv_at hl 0 rfl) ?_
        refine va_get (D := (dC, dI)) (ci := 11) (v := .int (sn + 1)) (C := RX12) (T := TX12) (N := 30) hx₀ hb hts inlX12 hown hK hP 0 rfl rfl 26 (by decide) (hts (.fieldLink RX12 240 "BittenStickModel" "sights" "I") wd_696) (fun _ h9 => h9) rfl dX12_seen_76 ?_
        obtain ⟨hP9, hD9⟩ := k_c2 (wc := [(kX12 hm vFo vSi vIt vMo la vBy vTy mi vMi pn vPs gn vGs fn vFt le vTo kn fe en ca an co vPr vSt vFn (sn + 1) vSg vAl dr), (kAI vSg cI 16 f_7)]) hP hD [0, 1] (by decide +kernel) rfl
        exact W.iret (v := sn + 1) hx₀ hb hr (fun t₀ ht hW => ⟨⟨sn + 1, (k_fn [(sn + 1)], k_fa [f_7], k_fl [], k_fL [], k_fp []), rfl, ⟨(show (sn + 1 : Int32) = if 0 ≤ f1 ∧ f1 ≤ 7 ∧ 0 ≤ m1 ∧ m1 ≤ 24 then (if sn = 8 then -4 else sn + 1) else -2 from (((if_neg (c_5)).symm).trans (if_pos (show 0 ≤ f1 ∧ f1 ≤ 7 ∧ 0 ≤ m1 ∧ m1 ≤ 24 from ⟨((k_64 (a := f1) (l := 0) (h := 7) (by decide) (by decide)).mp c_2).1, ((k_64 (a := f1) (l := 0) (h := 7) (by decide) (by decide)).mp c_2).2, ((k_64 (a := m1) (l := 0) (h := 24) (by decide) (by decide)).mp c_4).1, ((k_64 (a := m1) (l := 0) (h := 24) (by decide) (by decide)).mp c_4).2⟩)).symm)), (show (sn + 1) = if 0 ≤ f1 ∧ f1 ≤ 7 ∧ 0 ≤ m1 ∧ m1 ≤ 24 ∧ ¬ sn = 8 then sn + 1 else sn from (if_pos (show 0 ≤ f1 ∧ f1 ≤ 7 ∧ 0 ≤ m1 ∧ m1 ≤ 24 ∧ ¬ sn = 8 from ⟨((k_64 (a := f1) (l := 0) (h := 7) (by decide) (by decide)).mp c_2).1, ((k_64 (a := f1) (l := 0) (h := 7) (by decide) (by decide)).mp c_2).2, ((k_64 (a := m1) (l := 0) (h := 24) (by decide) (by decide)).mp c_4).1, ((k_64 (a := m1) (l := 0) (h := 24) (by decide) (by decide)).mp c_4).2, c_5⟩)).symm)⟩, by rw [ht]; exact hP9, va_K.moved hW.alike hK, hD9⟩, hS.F ht⟩) hS.2.2 dX12_seen_79
      · refine lv_bipush (v := (-4)) hx₀ hb dX12_seen_36 (by decide +kernel) ?_
        obtain ⟨hP9, hD9⟩ := k_c2 (wc := [(kX12 hm vFo vSi vIt vMo la vBy vTy mi vMi pn vPs gn vGs fn vFt le vTo kn fe en ca an co vPr vSt vFn sn vSg vAl dr), (kAI vSg cI 16 qSg)]) hP hD [0, 1] (by decide +kernel) rfl
        exact W.iret (v := (-4)) hx₀ hb hr (fun t₀ ht hW => ⟨⟨(-4), (k_fn [sn], k_fa [qSg], k_fl [], k_fL [], k_fp []), rfl, ⟨(show ((-4) : Int32) = if 0 ≤ f1 ∧ f1 ≤ 7 ∧ 0 ≤ m1 ∧ m1 ≤ 24 then (if sn = 8 then -4 else sn + 1) else -2 from (((if_pos (c_5)).symm).trans (if_pos (show 0 ≤ f1 ∧ f1 ≤ 7 ∧ 0 ≤ m1 ∧ m1 ≤ 24 from ⟨((k_64 (a := f1) (l := 0) (h := 7) (by decide) (by decide)).mp c_2).1, ((k_64 (a := f1) (l := 0) (h := 7) (by decide) (by decide)).mp c_2).2, ((k_64 (a := m1) (l := 0) (h := 24) (by decide) (by decide)).mp c_4).1, ((k_64 (a := m1) (l := 0) (h := 24) (by decide) (by decide)).mp c_4).2⟩)).symm)), (show sn = if 0 ≤ f1 ∧ f1 ≤ 7 ∧ 0 ≤ m1 ∧ m1 ≤ 24 ∧ ¬ sn = 8 then sn + 1 else sn from (if_neg (show ¬ (0 ≤ f1 ∧ f1 ≤ 7 ∧ 0 ≤ m1 ∧ m1 ≤ 24 ∧ ¬ sn = 8) from (fun z => (fun z => z c_5) z.2.2.2.2))).symm)⟩, by rw [ht]; exact hP9, va_K.moved hW.alike hK, hD9⟩, hS.F ht⟩) hS.2.2 dX12_seen_38
    rw [if_neg c_4] at hw
    refine k_topi (v := 0) hw ?_
    refine lv_if_ne (tgt := 27) hx₀ hb dX12_seen_21 (by decide) (fun c9 => absurd (by decide +kernel) c9) (fun _ => ?_)
    refine lv_bipush (v := (-2)) hx₀ hb dX12_seen_24 (by decide +kernel) ?_
    obtain ⟨hP9, hD9⟩ := k_c2 (wc := [(kX12 hm vFo vSi vIt vMo la vBy vTy mi vMi pn vPs gn vGs fn vFt le vTo kn fe en ca an co vPr vSt vFn sn vSg vAl dr), (kAI vSg cI 16 qSg)]) hP hD [0, 1] (by decide +kernel) rfl
    exact W.iret (v := (-2)) hx₀ hb hr (fun t₀ ht hW => ⟨⟨(-2), (k_fn [sn], k_fa [qSg], k_fl [], k_fL [], k_fp []), rfl, ⟨(show ((-2) : Int32) = if 0 ≤ f1 ∧ f1 ≤ 7 ∧ 0 ≤ m1 ∧ m1 ≤ 24 then (if sn = 8 then -4 else sn + 1) else -2 from (if_neg (show ¬ (0 ≤ f1 ∧ f1 ≤ 7 ∧ 0 ≤ m1 ∧ m1 ≤ 24) from (fun z => (fun z => c_4 ((k_64 (a := m1) (l := 0) (h := 24) (by decide) (by decide)).mpr z)) (And.intro z.2.2.1 z.2.2.2)))).symm), (show sn = if 0 ≤ f1 ∧ f1 ≤ 7 ∧ 0 ≤ m1 ∧ m1 ≤ 24 ∧ ¬ sn = 8 then sn + 1 else sn from (if_neg (show ¬ (0 ≤ f1 ∧ f1 ≤ 7 ∧ 0 ≤ m1 ∧ m1 ≤ 24 ∧ ¬ sn = 8) from (fun z => (fun z => c_4 ((k_64 (a := m1) (l := 0) (h := 24) (by decide) (by decide)).mpr z)) (And.intro z.2.2.1 z.2.2.2.1)))).symm)⟩, by rw [ht]; exact hP9, va_K.moved hW.alike hK, hD9⟩, hS.F ht⟩) hS.2.2 dX12_seen_26
  rw [if_neg c_2] at hw
  refine k_topi (v := 0) hw ?_
  refine lv_if_eq (tgt := 24) hx₀ hb dX12_seen_9 (by decide) (fun _ => ?_) (fun c9 => absurd (by decide +kernel) c9)
  refine lv_bipush (v := (-2)) hx₀ hb dX12_seen_24 (by decide +kernel) ?_
  obtain ⟨hP9, hD9⟩ := k_c2 (wc := [(kX12 hm vFo vSi vIt vMo la vBy vTy mi vMi pn vPs gn vGs fn vFt le vTo kn fe en ca an co vPr vSt vFn sn vSg vAl dr), (kAI vSg cI 16 qSg)]) hP hD [0, 1] (by decide +kernel) rfl
  exact W.iret (v := (-2)) hx₀ hb hr (fun t₀ ht hW => ⟨⟨(-2), (k_fn [sn], k_fa [qSg], k_fl [], k_fL [], k_fp []), rfl, ⟨(show ((-2) : Int32) = if 0 ≤ f1 ∧ f1 ≤ 7 ∧ 0 ≤ m1 ∧ m1 ≤ 24 then (if sn = 8 then -4 else sn + 1) else -2 from (if_neg (show ¬ (0 ≤ f1 ∧ f1 ≤ 7 ∧ 0 ≤ m1 ∧ m1 ≤ 24) from (fun z => (fun z => c_2 ((k_64 (a := f1) (l := 0) (h := 7) (by decide) (by decide)).mpr z)) (And.intro z.1 z.2.1)))).symm), (show sn = if 0 ≤ f1 ∧ f1 ≤ 7 ∧ 0 ≤ m1 ∧ m1 ≤ 24 ∧ ¬ sn = 8 then sn + 1 else sn from (if_neg (show ¬ (0 ≤ f1 ∧ f1 ≤ 7 ∧ 0 ≤ m1 ∧ m1 ≤ 24 ∧ ¬ sn = 8) from (fun z => (fun z => c_2 ((k_64 (a := f1) (l := 0) (h := 7) (by decide) (by decide)).mpr z)) (And.intro z.1 z.2.1)))).symm)⟩, by rw [ht]; exact hP9, va_K.moved hW.alike hK, hD9⟩, hS.F ht⟩) hS.2.2 dX12_seen_26
