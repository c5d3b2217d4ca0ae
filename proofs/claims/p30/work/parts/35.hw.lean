theorem lf_g_fliesTold_1 (a0 : Int32) (h0 : 0 ≤ a0 ∧ a0 ≤ 7) : 0 ≤ (4 * a0).toInt ∧ (4 * a0).toInt < 32 := by
  first | rfl | assumption | decide | exact Or.inl rfl | (first | omega | (have hr0 := Int32.toInt_lt a0; have hs0 := Int32.le_toInt a0; simp only [Int64.toInt_add, Int64.toInt_sub, Int32.toInt_add, Int32.toInt_sub, Int32.toInt_mul, Int64.le_iff_toInt_le, Int64.lt_iff_toInt_lt, Int32.le_iff_toInt_le, Int32.lt_iff_toInt_lt, ← Int32.toInt_inj, ← Int64.toInt_inj, Int32.toInt_toInt64, kc_0, kc_4, kc_7, kc_32] at *; (first | omega | ((try simp (disch := omega) only [k_bm64] at *); (try simp (disch := omega) only [k_bm] at *); (try simp (disch := omega) only [k_bm] at *); omega) | (simp only [Int.bmod] at *; omega))))
theorem lf_g_fliesTold_2 (a0 : Int32) (h0 : 0 ≤ a0 ∧ a0 ≤ 7) : 0 ≤ ((4 * a0) + 1).toInt ∧ ((4 * a0) + 1).toInt < 32 := by
  first | rfl | assumption | decide | exact Or.inl rfl | (first | omega | (have hr0 := Int32.toInt_lt a0; have hs0 := Int32.le_toInt a0; simp only [Int64.toInt_add, Int64.toInt_sub, Int32.toInt_add, Int32.toInt_sub, Int32.toInt_mul, Int64.le_iff_toInt_le, Int64.lt_iff_toInt_lt, Int32.le_iff_toInt_le, Int32.lt_iff_toInt_lt, ← Int32.toInt_inj, ← Int64.toInt_inj, Int32.toInt_toInt64, kc_0, kc_1, kc_4, kc_7, kc_32] at *; (first | omega | ((try simp (disch := omega) only [k_bm64] at *); (try simp (disch := omega) only [k_bm] at *); (try simp (disch := omega) only [k_bm] at *); omega) | (simp only [Int.bmod] at *; omega))))
set_option maxHeartbeats 4000000 in
set_option maxRecDepth 100000 in
theorem g_fliesTold (l : Launch) (dC : Nat → ClassId) (dI : Nat → Nat → Nat) (cI cJ cQ : ClassId) (sz : Nat) (hm : Nat) (f1 : Int32) (vFo : Nat) (vSi : Nat) (vIt : Nat) (vMo : Nat) (la : Int32) (vBy : Nat) (vTy : Nat) (mi : Int32) (vMi : Nat) (pn : Int32) (vPs : Nat) (gn : Int32) (vGs : Nat) (fn : Int32) (vFt : Nat) (le : Int32) (vTo : Nat) (kn : Int32) (fe : Int32) (en : Int32) (ca : Int32) (an : Int32) (co : Int32) (vPr : Nat) (vSt : Nat) (vFn : Nat) (sn : Int32) (vSg : Nat) (vAl : Nat) (dr : Int32) (qMi : Nat → Int32) (qPs : Nat → Int32) (qGs : Nat → Int32) (qTo : Nat → Int32) (qPr : Nat → Int32) (qSt : Nat → Int32) (qFn : Nat → Int32) (qFt : Nat → Int32) (hh0 : 0 ≤ mi ∧ mi ≤ 24) (hh1 : 0 ≤ pn ∧ pn ≤ 8) (hh2 : 0 ≤ gn ∧ gn ≤ 8) (hh3 : k_bd 2 0 7 qPr) (hh4 : 0 ≤ f1 ∧ f1 ≤ 7) : Met l yX12_fliesTold (kW yX12_fliesTold cX12_fliesTold 2 none) { frames := 3, cells := 0, slots := 0, locals := 78 } (kPre dC dI cI cJ cQ sz [.ref hm, .int f1] [(kX12 hm vFo vSi vIt vMo la vBy vTy mi vMi pn vPs gn vGs fn vFt le vTo kn fe en ca an co vPr vSt vFn sn vSg vAl dr), (kAI vMi cI 24 qMi), (kAI vPs cI 32 qPs), (kAI vGs cI 16 qGs), (kAI vTo cI 96 qTo), (kAI vPr cI 2 qPr), (kAI vSt cI 2 qSt), (kAI vFn cI 2 qFn), (kAI vFt cI 32 qFt)]) (va_Qv (fun (u : kS) => (k_bd 2 0 7 (u.2.1 1)) ∧ (0 ≤ (u.1 1) ∧ (u.1 1) ≤ 24) ∧ ((u.1 2) = 0 ∨ (u.1 0) = 0 ∨ (u.1 1) ≤ 23) ∧ (0 ≤ (u.1 0) ∧ (u.1 0) ≤ 24)) (fun (u : kS) t₀ => kB dC dI cI cJ cQ (va_A [(kX12 hm vFo vSi vIt vMo la vBy vTy mi vMi pn vPs gn vGs fn vFt le vTo kn fe en ca an co vPr vSt vFn sn vSg vAl dr), (kAI vMi cI 24 qMi), (kAI vPs cI 32 qPs), (kAI vGs cI 16 qGs), (kAI vTo cI 96 qTo), (kAI vPr cI 2 qPr), (kAI vSt cI 2 qSt), (kAI vFn cI 2 qFn), (kAI vFt cI 32 qFt)] sz) [(kX12 hm vFo vSi vIt vMo la vBy vTy mi vMi pn vPs gn vGs fn vFt le vTo (u.1 0) (u.1 1) (u.1 2) ca (u.1 3) (u.1 4) vPr vSt vFn sn vSg vAl dr), (kAI vMi cI 24 qMi), (kAI vPs cI 32 qPs), (kAI vGs cI 16 qGs), (kAI vTo cI 96 (u.2.1 0)), (kAI vPr cI 2 (u.2.1 1)), (kAI vSt cI 2 (u.2.1 2)), (kAI vFn cI 2 (u.2.1 3)), (kAI vFt cI 32 qFt)] t₀) (va_A [(kX12 hm vFo vSi vIt vMo la vBy vTy mi vMi pn vPs gn vGs fn vFt le vTo kn fe en ca an co vPr vSt vFn sn vSg vAl dr), (kAI vMi cI 24 qMi), (kAI vPs cI 32 qPs), (kAI vGs cI 16 qGs), (kAI vTo cI 96 qTo), (kAI vPr cI 2 qPr), (kAI vSt cI 2 qSt), (kAI vFn cI 2 qFn), (kAI vFt cI 32 qFt)] sz)) 0 0 (va_A [(kX12 hm vFo vSi vIt vMo la vBy vTy mi vMi pn vPs gn vGs fn vFt le vTo kn fe en ca an co vPr vSt vFn sn vSg vAl dr), (kAI vMi cI 24 qMi), (kAI vPs cI 32 qPs), (kAI vGs cI 16 qGs), (kAI vTo cI 96 qTo), (kAI vPr cI 2 qPr), (kAI vSt cI 2 qSt), (kAI vFn cI 2 qFn), (kAI vFt cI 32 qFt)] sz) := by
  refine Met.ofW (cc := cX12_fliesTold) (maxL := 2) (ret := none) (by decide) rfl ?_
  intro p₀ e₀ s₀ m₀ args below meth c₀ s₁ B hml hv₀
  obtain ⟨rfl, hsz, hP, hK, hD0, hN⟩ := hv₀
  have hx₀ := B.exec
  have hb := B.bytes
  have hr := B.returns
  have hts := atoms_spec (ws := (kW yX12_fliesTold cX12_fliesTold 2 none)) B.pre
  have hts := fun w h => hts w (List.mem_cons_of_mem _ h)
  have hown : s₀.vm.findClass RX12 = some m₀.cls := findClass_of_methodNamed B.named
  have hlocks := B.notSynchronized
  subst hsz
  have hD := hD0.self (sz := s₀.heap.size)
  generalize hAe : va_A [(kX12 hm vFo vSi vIt vMo la vBy vTy mi vMi pn vPs gn vGs fn vFt le vTo kn fe en ca an co vPr vSt vFn sn vSg vAl dr), (kAI vMi cI 24 qMi), (kAI vPs cI 32 qPs), (kAI vGs cI 16 qGs), (kAI vTo cI 96 qTo), (kAI vPr cI 2 qPr), (kAI vSt cI 2 qSt), (kAI vFn cI 2 qFn), (kAI vFt cI 32 qFt)] s₀.heap.size = A at hD ⊢
  have hA : ∀ q : Nat, s₀.heap.size ≤ q → A q := fun q h => by rw [← hAe]; exact Or.inr h
  have hS : va_S A s₀.heap s₀.heap [] := va_S.rf
  have hP : va_P (dC, dI) vwCl [(kX12 hm vFo vSi vIt vMo la vBy vTy mi vMi pn vPs gn vGs fn vFt le vTo kn fe en ca an co vPr vSt vFn sn vSg vAl dr), (kAI vMi cI 24 qMi), (kAI vPs cI 32 qPs), (kAI vGs cI 16 qGs), (kAI vTo cI 96 qTo), (kAI vPr cI 2 qPr), (kAI vSt cI 2 qSt), (kAI vFn cI 2 qFn), (kAI vFt cI 32 qFt)] s₀.heap := hP
  have hl := lv_entry ([.ref hm, .int f1]) (n := 2) (Nat.le_of_ble_eq_true rfl)
  rw [lg_entry_eq]
  generalize (lg_sl ([.ref hm, .int f1]) ++ List.replicate (2 - (lg_sl ([.ref hm, .int f1])).length) Slot.unset).toArray = ls at hl ⊢
  have hl : lv_has ls 2 [(0, .ref hm), (1, .int f1)] := hl
  obtain ⟨H, hH⟩ : ∃ z : Heap, z = s₀.heap := ⟨_, rfl⟩
  rw [← hH] at hP
  have hS : va_S A s₀.heap H [] := by rw [hH]; exact hS
  refine k_heap hH ?_
  have hD : va_D A [(kX12 hm vFo vSi vIt vMo la vBy vTy mi vMi pn vPs gn vGs fn vFt le vTo kn fe en ca an co vPr vSt vFn sn vSg vAl dr), (kAI vMi cI 24 qMi), (kAI vPs cI 32 qPs), (kAI vGs cI 16 qGs), (kAI vTo cI 96 qTo), (kAI vPr cI 2 qPr), (kAI vSt cI 2 qSt), (kAI vFn cI 2 qFn), (kAI vFt cI 32 qFt)] := hD
  obtain ⟨locs, hlo⟩ : ∃ z : List Loc, z = [] := ⟨_, rfl⟩
  rw [← hlo] at hS ⊢
  clear hlo hH hAe hD0
  refine lv_aload_n hx₀ hb dX12_fliesTold_0 rfl (lv_at hl 0 rfl) ?_
  refine lv_aload_n hx₀ hb dX12_fliesTold_1 rfl (lv_at hl 0 rfl) ?_
  refine va_get (D := (dC, dI)) (ci := 11) (v := .ref vFt) (C := RX12) (T := TX12) (N := 30) hx₀ hb hts inlX12 hown hK hP 0 rfl rfl 14 (by decide) (hts (.fieldLink RX12 37 "BittenStickModel" "flight" "[I") wd_124) (fun _ h9 => h9) rfl dX12_fliesTold_2 ?_
  refine lv_iconst (v := 4) hx₀ hb dX12_fliesTold_5 (by decide +kernel) ?_
  refine lv_iload_n hx₀ hb dX12_fliesTold_6 rfl (lv_at hl 1 rfl) ?_
  refine lv_imul hx₀ hb dX12_fliesTold_7 ?_
  refine va_iald hx₀ hb hK hP 8 0 rfl rfl (vp_in_iff.mpr (lf_g_fliesTold_1 f1 hh4)) dX12_fliesTold_8 ?_
  refine lv_topi (fun y_1 ey_1 => ?_)
  refine lv_aload_n hx₀ hb dX12_fliesTold_9 rfl (lv_at hl 0 rfl) ?_
  refine va_get (D := (dC, dI)) (ci := 11) (v := .ref vFt) (C := RX12) (T := TX12) (N := 30) hx₀ hb hts inlX12 hown hK hP 0 rfl rfl 14 (by decide) (hts (.fieldLink RX12 37 "BittenStickModel" "flight" "[I") wd_124) (fun _ h9 => h9) rfl dX12_fliesTold_10 ?_
  refine lv_iconst (v := 4) hx₀ hb dX12_fliesTold_13 (by decide +kernel) ?_
  refine lv_iload_n hx₀ hb dX12_fliesTold_14 rfl (lv_at hl 1 rfl) ?_
  refine lv_imul hx₀ hb dX12_fliesTold_15 ?_
  refine lv_iconst (v := 1) hx₀ hb dX12_fliesTold_16 (by decide +kernel) ?_
  refine lv_iadd hx₀ hb dX12_fliesTold_17 ?_
  refine va_iald hx₀ hb hK hP 8 0 rfl rfl (vp_in_iff.mpr (lf_g_fliesTold_2 f1 hh4)) dX12_fliesTold_18 ?_
  refine lv_topi (fun y_2 ey_2 => ?_)
  refine lv_aload_n hx₀ hb dX12_fliesTold_19 rfl (lv_at hl 0 rfl) ?_
  refine va_get (D := (dC, dI)) (ci := 11) (v := .ref vFt) (C := RX12) (T := TX12) (N := 30) hx₀ hb hts inlX12 hown hK hP 0 rfl rfl 14 (by decide) (hts (.fieldLink RX12 37 "BittenStickModel" "flight" "[I") wd_124) (fun _ h9 => h9) rfl dX12_fliesTold_20 ?_
  refine lv_iconst (v := 4) hx₀ hb dX12_fliesTold_23 (by decide +kernel) ?_
  refine lv_iload_n hx₀ hb dX12_fliesTold_24 rfl (lv_at hl 1 rfl) ?_
  refine lv_imul hx₀ hb dX12_fliesTold_25 ?_
  refine lv_iconst (v := 2) hx₀ hb dX12_fliesTold_26 (by decide +kernel) ?_
  refine lv_iadd hx₀ hb dX12_fliesTold_27 ?_
  refine va_iald hx₀ hb hK hP 8 0 rfl rfl (vp_in_iff.mpr (lf_g_goes_3 f1 hh4)) dX12_fliesTold_28 ?_
  refine lv_topi (fun y_3 ey_3 => ?_)
  refine lv_aload_n hx₀ hb dX12_fliesTold_29 rfl (lv_at hl 0 rfl) ?_
  refine va_get (D := (dC, dI)) (ci := 11) (v := .ref vFt) (C := RX12) (T := TX12) (N := 30) hx₀ hb hts inlX12 hown hK hP 0 rfl rfl 14 (by decide) (hts (.fieldLink RX12 37 "BittenStickModel" "flight" "[I") wd_124) (fun _ h9 => h9) rfl dX12_fliesTold_30 ?_
  refine lv_iconst (v := 4) hx₀ hb dX12_fliesTold_33 (by decide +kernel) ?_
  refine lv_iload_n hx₀ hb dX12_fliesTold_34 rfl (lv_at hl 1 rfl) ?_
  refine lv_imul hx₀ hb dX12_fliesTold_35 ?_
  refine lv_iconst (v := 3) hx₀ hb dX12_fliesTold_36 (by decide +kernel) ?_
  refine lv_iadd hx₀ hb dX12_fliesTold_37 ?_
  refine va_iald hx₀ hb hK hP 8 0 rfl rfl (vp_in_iff.mpr (lf_g_goes_2 f1 hh4)) dX12_fliesTold_38 ?_
  refine lv_topi (fun y_4 ey_4 => ?_)
  refine lv_bipush (v := 24) hx₀ hb dX12_fliesTold_39 (by decide +kernel) ?_
  refine lv_iconst (v := 0) hx₀ hb dX12_fliesTold_41 (by decide +kernel) ?_
  obtain ⟨hPc, hDc, hFc, hC⟩ := k_cw (wc := [(kX12 hm vFo vSi vIt vMo la vBy vTy mi vMi pn vPs gn vGs fn vFt le vTo kn fe en ca an co vPr vSt vFn sn vSg vAl dr), (kAI vMi cI 24 qMi), (kAI vPs cI 32 qPs), (kAI vGs cI 16 qGs), (kAI vTo cI 96 qTo), (kAI vPr cI 2 qPr), (kAI vSt cI 2 qSt), (kAI vFn cI 2 qFn)]) hP hD hS hA [0, 1, 2, 3, 4, 5, 6, 7] (by decide +kernel) rfl
  refine va_callv (va_runV (As := [.int y_1, .int y_2, .int y_3, .int y_4, .int 24, .int 0]) (rest := []) ⟨hx₀, hb, hml, hown, hts⟩ (g_flies l dC dI cI cJ cQ H.size hm y_1 y_2 y_3 y_4 24 0 vFo vSi vIt vMo la vBy vTy mi vMi pn vPs gn vGs fn vFt le vTo kn fe en ca an co vPr vSt vFn sn vSg vAl dr qMi qPs qGs qTo qPr qSt qFn (hh0) (hh1) (hh2) (hh3)) (cwV 6 hts (kGV wd_540 wd_537 wd_538 wd_539 wd_5) rfl rfl rfl (by decide +kernel) ⟨Nat.le_of_ble_eq_true rfl, Nat.le_of_ble_eq_true rfl⟩) (k_preV11 (q0 := 0) hK hPc hDc hN rfl) rfl rfl hl.1 rfl (lv_room (Nat.le_of_ble_eq_true rfl)) dX12_fliesTold_42 ⟨by decide +kernel, by decide +kernel⟩) hS (fun q _ h => hFc q h) hFc (fun u₀ t₀ H1 locs ht hvm hw hB hz1 hk1 hS => ?_)
  obtain ⟨g_6, ga_7, gl_8, gb_9, gp_10⟩ := u₀
  obtain ⟨hP1, hK1, hD1⟩ := hB
  rw [ht] at hP1
  have hJ := k_jn (wr := [(kAI vFt cI 32 qFt)]) (wt := [(kAI vFt cI 32 qFt), (kX12 hm vFo vSi vIt vMo la vBy vTy mi vMi pn vPs gn vGs fn vFt le vTo (g_6 0) (g_6 1) (g_6 2) ca (g_6 3) (g_6 4) vPr vSt vFn sn vSg vAl dr), (kAI vMi cI 24 qMi), (kAI vPs cI 32 qPs), (kAI vGs cI 16 qGs), (kAI vTo cI 96 (ga_7 0)), (kAI vPr cI 2 (ga_7 1)), (kAI vSt cI 2 (ga_7 2)), (kAI vFn cI 2 (ga_7 3))]) hP hD hC [8] rfl (by decide +kernel) (by decide +kernel) hk1 hFc hP1 hD1 rfl
  clear hP hD hPc hDc hFc hC hP1 hD1 hK1 hz1 hk1 hvm ht
  obtain ⟨hP, hD⟩ := hJ
  generalize H1 = H at hP hS ⊢
  try dsimp only at hw
  obtain ⟨c_11, c_12, c_13, c_14⟩ := hw
  obtain ⟨hP9, hD9⟩ := k_c2 (wc := [(kX12 hm vFo vSi vIt vMo la vBy vTy mi vMi pn vPs gn vGs fn vFt le vTo (g_6 0) (g_6 1) (g_6 2) ca (g_6 3) (g_6 4) vPr vSt vFn sn vSg vAl dr), (kAI vMi cI 24 qMi), (kAI vPs cI 32 qPs), (kAI vGs cI 16 qGs), (kAI vTo cI 96 (ga_7 0)), (kAI vPr cI 2 (ga_7 1)), (kAI vSt cI 2 (ga_7 2)), (kAI vFn cI 2 (ga_7 3)), (kAI vFt cI 32 qFt)]) hP hD [1, 2, 3, 4, 5, 6, 7, 8, 0] (by decide +kernel) rfl
  exact W.vret hx₀ hb hr (fun t₀ ht hW => ⟨⟨(k_fn [(g_6 0), (g_6 1), (g_6 2), (g_6 3), (g_6 4)], k_fa [ga_7 0, ga_7 1, ga_7 2, ga_7 3], k_fl [], k_fL [], k_fp []), rfl, ⟨c_11, c_12, c_13, c_14⟩, by rw [ht]; exact hP9, va_K.moved hW.alike hK, hD9⟩, hS.F ht⟩) hS.2.2 dX12_fliesTold_45
theorem lf_g_comesNow_1 (a0 : Int32) (a1 : Int32) (a2 : Int32) (h0 : 0 ≤ a0 ∧ a0 ≤ 24) (h1 : a1 = 0 ∨ a2 = 0 ∨ a0 ≤ 23) (h2 : 0 ≤ a2 ∧ a2 ≤ 24) (h3 : ¬ a1 = 0) (h4 : ¬ a2 ≤ 0) : 0 ≤ a0.toInt ∧ a0.toInt < 24 := by
  first | rfl | assumption | decide | exact Or.inl rfl | (first | omega | (have hr0 := Int32.toInt_lt a0; have hs0 := Int32.le_toInt a0; have hr1 := Int32.toInt_lt a1; have hs1 := Int32.le_toInt a1; have hr2 := Int32.toInt_lt a2; have hs2 := Int32.le_toInt a2; simp only [Int64.toInt_add, Int64.toInt_sub, Int32.toInt_add, Int32.toInt_sub, Int32.toInt_mul, Int64.le_iff_toInt_le, Int64.lt_iff_toInt_lt, Int32.le_iff_toInt_le, Int32.lt_iff_toInt_lt, ← Int32.toInt_inj, ← Int64.toInt_inj, Int32.toInt_toInt64, kc_0, kc_23, kc_24] at *; (first | omega | ((try simp (disch := omega) only [k_bm64] at *); (try simp (disch := omega) only [k_bm] at *); (try simp (disch := omega) only [k_bm] at *); omega) | (simp only [Int.bmod] at *; omega))))
set_option maxHeartbeats 4000000 in
set_option maxRecDepth 100000 in
theorem g_comesNow (l : Launch) (dC : Nat → ClassId) (dI : Nat → Nat → Nat) (cI cJ cQ : ClassId) (sz : Nat) (hm : Nat) (w1 : Int32) (vFo : Nat) (vSi : Nat) (vIt : Nat) (vMo : Nat) (la : Int32) (vBy : Nat) (vTy : Nat) (mi : Int32) (vMi : Nat) (pn : Int32) (vPs : Nat) (gn : Int32) (vGs : Nat) (fn : Int32) (vFt : Nat) (le : Int32) (vTo : Nat) (kn : Int32) (fe : Int32) (en : Int32) (ca : Int32) (an : Int32) (co : Int32) (vPr : Nat) (vSt : Nat) (vFn : Nat) (sn : Int32) (vSg : Nat) (vAl : Nat) (dr : Int32) (qMi : Nat → Int32) (hh0 : 0 ≤ fe ∧ fe ≤ 24) (hh1 : en = 0 ∨ kn = 0 ∨ fe ≤ 23) (hh2 : 0 ≤ kn ∧ kn ≤ 24) : Met l yX12_comesNow (kW yX12_comesNow cX12_comesNow 3 (some .int)) { frames := 0, cells := 0, slots := 0, locals := 0 } (kPre dC dI cI cJ cQ sz [.ref hm, .int w1] [(kX12 hm vFo vSi vIt vMo la vBy vTy mi vMi pn vPs gn vGs fn vFt le vTo kn fe en ca an co vPr vSt vFn sn vSg vAl dr), (kAI vMi cI 24 qMi)]) (va_Qi (fun (r : Int32) (u : Unit) => True) (fun (u : Unit) t₀ => kB dC dI cI cJ cQ (va_A [(kX12 hm vFo vSi vIt vMo la vBy vTy mi vMi pn vPs gn vGs fn vFt le vTo kn fe en ca an co vPr vSt vFn sn vSg vAl dr), (kAI vMi cI 24 qMi)] sz) [(kX12 hm vFo vSi vIt vMo la vBy vTy mi vMi pn vPs gn vGs fn vFt le vTo kn fe en ca an co vPr vSt vFn sn vSg vAl dr), (kAI vMi cI 24 qMi)] t₀) (va_A [(kX12 hm vFo vSi vIt vMo la vBy vTy mi vMi pn vPs gn vGs fn vFt le vTo kn fe en ca an co vPr vSt vFn sn vSg vAl dr), (kAI vMi cI 24 qMi)] sz)) 0 0 (va_A [(kX12 hm vFo vSi vIt vMo la vBy vTy mi vMi pn vPs gn vGs fn vFt le vTo kn fe en ca an co vPr vSt vFn sn vSg vAl dr), (kAI vMi cI 24 qMi)] sz) := by
  refine Met.ofW (cc := cX12_comesNow) (maxL := 3) (ret := (some .int)) (by decide) rfl ?_
  intro p₀ e₀ s₀ m₀ args below meth c₀ s₁ B hml hv₀
  obtain ⟨rfl, hsz, hP, hK, hD0, hN⟩ := hv₀
  have hx₀ := B.exec
  have hb := B.bytes
  have hr := B.returns
  have hts := atoms_spec (ws := (kW yX12_comesNow cX12_comesNow 3 (some .int))) B.pre
  have hts := fun w h => hts w (List.mem_cons_of_mem _ h)
  have hown : s₀.vm.findClass RX12 = some m₀.cls := findClass_of_methodNamed B.named
  have hlocks := B.notSynchronized
  subst hsz
  have hD := hD0.self (sz := s₀.heap.size)
  generalize hAe : va_A [(kX12 hm vFo vSi vIt vMo la vBy vTy mi vMi pn vPs gn vGs fn vFt le vTo kn fe en ca an co vPr vSt vFn sn vSg vAl dr), (kAI vMi cI 24 qMi)] s₀.heap.size = A at hD ⊢
  have hA : ∀ q : Nat, s₀.heap.size ≤ q → A q := fun q h => by rw [← hAe]; exact Or.inr h
  have hS : va_S A s₀.heap s₀.heap [] := va_S.rf
  have hP : va_P (dC, dI) vwCl [(kX12 hm vFo vSi vIt vMo la vBy vTy mi vMi pn vPs gn vGs fn vFt le vTo kn fe en ca an co vPr vSt vFn sn vSg vAl dr), (kAI vMi cI 24 qMi)] s₀.heap := hP
  have hl := lv_entry ([.ref hm, .int w1]) (n := 3) (Nat.le_of_ble_eq_true rfl)
  rw [lg_entry_eq]
  generalize (lg_sl ([.ref hm, .int w1]) ++ List.replicate (3 - (lg_sl ([.ref hm, .int w1])).length) Slot.unset).toArray = ls at hl ⊢
  have hl : lv_has ls 3 [(0, .ref hm), (1, .int w1)] := hl
  obtain ⟨H, hH⟩ : ∃ z : Heap, z = s₀.heap := ⟨_, rfl⟩
  rw [← hH] at hP
  have hS : va_S A s₀.heap H [] := by rw [hH]; exact hS
  refine k_heap hH ?_
  have hD : va_D A [(kX12 hm vFo vSi vIt vMo la vBy vTy mi vMi pn vPs gn vGs fn vFt le vTo kn fe en ca an co vPr vSt vFn sn vSg vAl dr), (kAI vMi cI 24 qMi)] := hD
  obtain ⟨locs, hlo⟩ : ∃ z : List Loc, z = [] := ⟨_, rfl⟩
  rw [← hlo] at hS ⊢
  clear hlo hH hAe hD0
  refine lv_aload_n hx₀ hb dX12_comesNow_0 rfl (lv_at hl 0 rfl) ?_
  refine va_get (D := (dC, dI)) (ci := 11) (v := .int en) (C := RX12) (T := TX12) (N := 30) hx₀ hb hts inlX12 hown hK hP 0 rfl rfl 19 (by decide) (hts (.fieldLink RX12 196 "BittenStickModel" "end" "I") wd_543) (fun _ h9 => h9) rfl dX12_comesNow_1 ?_
  refine lv_if_eq (tgt := 32) hx₀ hb dX12_comesNow_4 (by decide) (fun c_1 => ?_) (fun c_1 => ?_)
  · refine lv_iconst (v := 0) hx₀ hb dX12_comesNow_32 (by decide +kernel) ?_
    refine lv_istore_n (lv' := [(2, .int 0), (0, .ref hm), (1, .int w1)]) hx₀ hb dX12_comesNow_33 rfl hl (by decide) rfl (fun ls hl => ?_)
    refine lv_iload_n hx₀ hb dX12_comesNow_34 rfl (lv_at hl 2 rfl) ?_
    refine lv_if_ne (tgt := 45) hx₀ hb dX12_comesNow_35 (by decide) (fun c_2 => ?_) (fun c_2 => ?_)
    · refine lv_iload_n hx₀ hb dX12_comesNow_45 rfl (lv_at hl 2 rfl) ?_
      refine lv_iconst (v := 1) hx₀ hb dX12_comesNow_46 (by decide +kernel) ?_
      refine lv_icmp_ne (tgt := 57) hx₀ hb dX12_comesNow_47 (by decide) (fun c_3 => ?_) (fun c_3 => ?_)
      · refine lv_iload_n hx₀ hb dX12_comesNow_57 rfl (lv_at hl 0 rfl) ?_
        refine lv_if_eq (tgt := 73) hx₀ hb dX12_comesNow_58 (by decide) (fun _ => ?_) (fun c9 => absurd (by decide +kernel) c9)
        refine lv_iconst (v := (-1)) hx₀ hb dX12_comesNow_73 (by decide +kernel) ?_
        obtain ⟨hP9, hD9⟩ := k_c2 (wc := [(kX12 hm vFo vSi vIt vMo la vBy vTy mi vMi pn vPs gn vGs fn vFt le vTo kn fe en ca an co vPr vSt vFn sn vSg vAl dr), (kAI vMi cI 24 qMi)]) hP hD [0, 1] (by decide +kernel) rfl
        exact W.iret (v := (-1)) hx₀ hb hr (fun t₀ ht hW => ⟨⟨(-1), (), rfl, trivial, by rw [ht]; exact hP9, va_K.moved hW.alike hK, hD9⟩, hS.F ht⟩) hS.2.2 dX12_comesNow_74
      · refine lv_aload_n hx₀ hb dX12_comesNow_50 rfl (lv_at hl 1 rfl) ?_
        refine va_get (D := (dC, dI)) (ci := 11) (v := .int en) (C := RX12) (T := TX12) (N := 30) hx₀ hb hts inlX12 hown hK hP 0 rfl rfl 19 (by decide) (hts (.fieldLink RX12 196 "BittenStickModel" "end" "I") wd_543) (fun _ h9 => h9) rfl dX12_comesNow_51 ?_
        refine lv_goto (tgt := 74) hx₀ hb dX12_comesNow_54 (by decide) ?_
        obtain ⟨hP9, hD9⟩ := k_c2 (wc := [(kX12 hm vFo vSi vIt vMo la vBy vTy mi vMi pn vPs gn vGs fn vFt le vTo kn fe en ca an co vPr vSt vFn sn vSg vAl dr), (kAI vMi cI 24 qMi)]) hP hD [0, 1] (by decide +kernel) rfl
        exact W.iret (v := en) hx₀ hb hr (fun t₀ ht hW => ⟨⟨en, (), rfl, trivial, by rw [ht]; exact hP9, va_K.moved hW.alike hK, hD9⟩, hS.F ht⟩) hS.2.2 dX12_comesNow_74
    · refine lv_aload_n hx₀ hb dX12_comesNow_38 rfl (lv_at hl 1 rfl) ?_
      refine va_get (D := (dC, dI)) (ci := 11) (v := .int fe) (C := RX12) (T := TX12) (N := 30) hx₀ hb hts inlX12 hown hK hP 0 rfl rfl 18 (by decide) (hts (.fieldLink RX12 193 "BittenStickModel" "fell" "I") wd_542) (fun _ h9 => h9) rfl dX12_comesNow_39 ?_
      refine lv_goto (tgt := 74) hx₀ hb dX12_comesNow_42 (by decide) ?_
      obtain ⟨hP9, hD9⟩ := k_c2 (wc := [(kX12 hm vFo vSi vIt vMo la vBy vTy mi vMi pn vPs gn vGs fn vFt le vTo kn fe en ca an co vPr vSt vFn sn vSg vAl dr), (kAI vMi cI 24 qMi)]) hP hD [0, 1] (by decide +kernel) rfl
      exact W.iret (v := fe) hx₀ hb hr (fun t₀ ht hW => ⟨⟨fe, (), rfl, trivial, by rw [ht]; exact hP9, va_K.moved hW.alike hK, hD9⟩, hS.F ht⟩) hS.2.2 dX12_comesNow_74
  · refine lv_aload_n hx₀ hb dX12_comesNow_7 rfl (lv_at hl 0 rfl) ?_
    refine va_get (D := (dC, dI)) (ci := 11) (v := .int kn) (C := RX12) (T := TX12) (N := 30) hx₀ hb hts inlX12 hown hK hP 0 rfl rfl 17 (by decide) (hts (.fieldLink RX12 190 "BittenStickModel" "known" "I") wd_541) (fun _ h9 => h9) rfl dX12_comesNow_8 ?_
    refine lv_if_le (tgt := 32) hx₀ hb dX12_comesNow_11 (by decide) (fun c_4 => ?_) (fun c_4 => ?_)
    · refine lv_iconst (v := 0) hx₀ hb dX12_comesNow_32 (by decide +kernel) ?_
      refine lv_istore_n (lv' := [(2, .int 0), (0, .ref hm), (1, .int w1)]) hx₀ hb dX12_comesNow_33 rfl hl (by decide) rfl (fun ls hl => ?_)
      refine lv_iload_n hx₀ hb dX12_comesNow_34 rfl (lv_at hl 2 rfl) ?_
      refine lv_if_ne (tgt := 45) hx₀ hb dX12_comesNow_35 (by decide) (fun c_5 => ?_) (fun c_5 => ?_)
      · refine lv_iload_n hx₀ hb dX12_comesNow_45 rfl (lv_at hl 2 rfl) ?_
        refine lv_iconst (v := 1) hx₀ hb dX12_comesNow_46 (by decide +kernel) ?_
        refine lv_icmp_ne (tgt := 57) hx₀ hb dX12_comesNow_47 (by decide) (fun c_6 => ?_) (fun c_6 => ?_)
        · refine lv_iload_n hx₀ hb dX12_comesNow_57 rfl (lv_at hl 0 rfl) ?_
          refine lv_if_eq (tgt := 73) hx₀ hb dX12_comesNow_58 (by decide) (fun _ => ?_) (fun c9 => absurd (by decide +kernel) c9)
          refine lv_iconst (v := (-1)) hx₀ hb dX12_comesNow_73 (by decide +kernel) ?_
          obtain ⟨hP9, hD9⟩ := k_c2 (wc := [(kX12 hm vFo vSi vIt vMo la vBy vTy mi vMi pn vPs gn vGs fn vFt le vTo kn fe en ca an co vPr vSt vFn sn vSg vAl dr), (kAI vMi cI 24 qMi)]) hP hD [0, 1] (by decide +kernel) rfl
          exact W.iret (v := (-1)) hx₀ hb hr (fun t₀ ht hW => ⟨⟨(-1), (), rfl, trivial, by rw [ht]; exact hP9, va_K.moved hW.alike hK, hD9⟩, hS.F ht⟩) hS.2.2 dX12_comesNow_74
        · refine lv_aload_n hx₀ hb dX12_comesNow_50 rfl (lv_at hl 1 rfl) ?_
          refine va_get (D := (dC, dI)) (ci := 11) (v := .int en) (C := RX12) (T := TX12) (N := 30) hx₀ hb hts inlX12 hown hK hP 0 rfl rfl 19 (by decide) (hts (.fieldLink RX12 196 "BittenStickModel" "end" "I") wd_543) (fun _ h9 => h9) rfl dX12_comesNow_51 ?_
          refine lv_goto (tgt := 74) hx₀ hb dX12_comesNow_54 (by decide) ?_
          obtain ⟨hP9, hD9⟩ := k_c2 (wc := [(kX12 hm vFo vSi vIt vMo la vBy vTy mi vMi pn vPs gn vGs fn vFt le vTo kn fe en ca an co vPr vSt vFn sn vSg vAl dr), (kAI vMi cI 24 qMi)]) hP hD [0, 1] (by decide +kernel) rfl
          exact W.iret (v := en) hx₀ hb hr (fun t₀ ht hW => ⟨⟨en, (), rfl, trivial, by rw [ht]; exact hP9, va_K.moved hW.alike hK, hD9⟩, hS.F ht⟩) hS.2.2 dX12_comesNow_74
      · refine lv_aload_n hx₀ hb dX12_comesNow_38 rfl (lv_at hl 1 rfl) ?_
        refine va_get (D := (dC, dI)) (ci := 11) (v := .int fe) (C := RX12) (T := TX12) (N := 30) hx₀ hb hts inlX12 hown hK hP 0 rfl rfl 18 (by decide) (hts (.fieldLink RX12 193 "BittenStickModel" "fell" "I") wd_542) (fun _ h9 => h9) rfl dX12_comesNow_39 ?_
        refine lv_goto (tgt := 74) hx₀ hb dX12_comesNow_42 (by decide) ?_
        obtain ⟨hP9, hD9⟩ := k_c2 (wc := [(kX12 hm vFo vSi vIt vMo la vBy vTy mi vMi pn vPs gn vGs fn vFt le vTo kn fe en ca an co vPr vSt vFn sn vSg vAl dr), (kAI vMi cI 24 qMi)]) hP hD [0, 1] (by decide +kernel) rfl
        exact W.iret (v := fe) hx₀ hb hr (fun t₀ ht hW => ⟨⟨fe, (), rfl, trivial, by rw [ht]; exact hP9, va_K.moved hW.alike hK, hD9⟩, hS.F ht⟩) hS.2.2 dX12_comesNow_74
    · refine lv_aload_n hx₀ hb dX12_comesNow_14 rfl (lv_at hl 0 rfl) ?_
      refine va_get (D := (dC, dI)) (ci := 11) (v := .ref vMi) (C := RX12) (T := TX12) (N := 30) hx₀ hb hts inlX12 hown hK hP 0 rfl rfl 8 (by decide) (hts (.fieldLink RX12 28 "BittenStickModel" "mile" "[I") wd_121) (fun _ h9 => h9) rfl dX12_comesNow_15 ?_
      refine lv_aload_n hx₀ hb dX12_comesNow_18 rfl (lv_at hl 0 rfl) ?_
      refine va_get (D := (dC, dI)) (ci := 11) (v := .int fe) (C := RX12) (T := TX12) (N := 30) hx₀ hb hts inlX12 hown hK hP 0 rfl rfl 18 (by decide) (hts (.fieldLink RX12 193 "BittenStickModel" "fell" "I") wd_542) (fun _ h9 => h9) rfl dX12_comesNow_19 ?_
      refine va_iald hx₀ hb hK hP 1 0 rfl rfl (vp_in_iff.mpr (lf_g_comesNow_1 fe en kn hh0 hh1 hh2 c_1 c_4)) dX12_comesNow_22 ?_
      refine lv_topi (fun y_7 ey_7 => ?_)
      refine lv_bipush (v := 6) hx₀ hb dX12_comesNow_23 (by decide +kernel) ?_
      refine lv_icmp_ge (tgt := 32) hx₀ hb dX12_comesNow_25 (by decide) (fun c_8 => ?_) (fun c_8 => ?_)
      · refine lv_iconst (v := 0) hx₀ hb dX12_comesNow_32 (by decide +kernel) ?_
        refine lv_istore_n (lv' := [(2, .int 0), (0, .ref hm), (1, .int w1)]) hx₀ hb dX12_comesNow_33 rfl hl (by decide) rfl (fun ls hl => ?_)
        refine lv_iload_n hx₀ hb dX12_comesNow_34 rfl (lv_at hl 2 rfl) ?_
        refine lv_if_ne (tgt := 45) hx₀ hb dX12_comesNow_35 (by decide) (fun c_9 => ?_) (fun c_9 => ?_)
        · refine lv_iload_n hx₀ hb dX12_comesNow_45 rfl (lv_at hl 2 rfl) ?_
          refine lv_iconst (v := 1) hx₀ hb dX12_comesNow_46 (by decide +kernel) ?_
          refine lv_icmp_ne (tgt := 57) hx₀ hb dX12_comesNow_47 (by decide) (fun c_10 => ?_) (fun c_10 => ?_)
          · refine lv_iload_n hx₀ hb dX12_comesNow_57 rfl (lv_at hl 0 rfl) ?_
            refine lv_if_eq (tgt := 73) hx₀ hb dX12_comesNow_58 (by decide) (fun _ => ?_) (fun c9 => absurd (by decide +kernel) c9)
            refine lv_iconst (v := (-1)) hx₀ hb dX12_comesNow_73 (by decide +kernel) ?_
            obtain ⟨hP9, hD9⟩ := k_c2 (wc := [(kX12 hm vFo vSi vIt vMo la vBy vTy mi vMi pn vPs gn vGs fn vFt le vTo kn fe en ca an co vPr vSt vFn sn vSg vAl dr), (kAI vMi cI 24 qMi)]) hP hD [0, 1] (by decide +kernel) rfl
            exact W.iret (v := (-1)) hx₀ hb hr (fun t₀ ht hW => ⟨⟨(-1), (), rfl, trivial, by rw [ht]; exact hP9, va_K.moved hW.alike hK, hD9⟩, hS.F ht⟩) hS.2.2 dX12_comesNow_74
          · refine lv_aload_n hx₀ hb dX12_comesNow_50 rfl (lv_at hl 1 rfl) ?_
            refine va_get (D := (dC, dI)) (ci := 11) (v := .int en) (C := RX12) (T := TX12) (N := 30) hx₀ hb hts inlX12 hown hK hP 0 rfl rfl 19 (by decide) (hts (.fieldLink RX12 196 "BittenStickModel" "end" "I") wd_543) (fun _ h9 => h9) rfl dX12_comesNow_51 ?_
            refine lv_goto (tgt := 74) hx₀ hb dX12_comesNow_54 (by decide) ?_
            obtain ⟨hP9, hD9⟩ := k_c2 (wc := [(kX12 hm vFo vSi vIt vMo la vBy vTy mi vMi pn vPs gn vGs fn vFt le vTo kn fe en ca an co vPr vSt vFn sn vSg vAl dr), (kAI vMi cI 24 qMi)]) hP hD [0, 1] (by decide +kernel) rfl
            exact W.iret (v := en) hx₀ hb hr (fun t₀ ht hW => ⟨⟨en, (), rfl, trivial, by rw [ht]; exact hP9, va_K.moved hW.alike hK, hD9⟩, hS.F ht⟩) hS.2.2 dX12_comesNow_74
        · refine lv_aload_n hx₀ hb dX12_comesNow_38 rfl (lv_at hl 1 rfl) ?_
          refine va_get (D := (dC, dI)) (ci := 11) (v := .int fe) (C := RX12) (T := TX12) (N := 30) hx₀ hb hts inlX12 hown hK hP 0 rfl rfl 18 (by decide) (hts (.fieldLink RX12 193 "BittenStickModel" "fell" "I") wd_542) (fun _ h9 => h9) rfl dX12_comesNow_39 ?_
          refine lv_goto (tgt := 74) hx₀ hb dX12_comesNow_42 (by decide) ?_
          obtain ⟨hP9, hD9⟩ := k_c2 (wc := [(kX12 hm vFo vSi vIt vMo la vBy vTy mi vMi pn vPs gn vGs fn vFt le vTo kn fe en ca an co vPr vSt vFn sn vSg vAl dr), (kAI vMi cI 24 qMi)]) hP hD [0, 1] (by decide +kernel) rfl
          exact W.iret (v := fe) hx₀ hb hr (fun t₀ ht hW => ⟨⟨fe, (), rfl, trivial, by rw [ht]; exact hP9, va_K.moved hW.alike hK, hD9⟩, hS.F ht⟩) hS.2.2 dX12_comesNow_74
      · refine lv_iconst (v := 1) hx₀ hb dX12_comesNow_28 (by decide +kernel) ?_
        refine lv_goto (tgt := 33) hx₀ hb dX12_comesNow_29 (by decide) ?_
        refine lv_istore_n (lv' := [(2, .int 1), (0, .ref hm), (1, .int w1)]) hx₀ hb dX12_comesNow_33 rfl hl (by decide) rfl (fun ls hl => ?_)
        refine lv_iload_n hx₀ hb dX12_comesNow_34 rfl (lv_at hl 2 rfl) ?_
        refine lv_if_ne (tgt := 45) hx₀ hb dX12_comesNow_35 (by decide) (fun c_11 => ?_) (fun c_11 => ?_)
        · refine lv_iload_n hx₀ hb dX12_comesNow_45 rfl (lv_at hl 2 rfl) ?_
          refine lv_iconst (v := 1) hx₀ hb dX12_comesNow_46 (by decide +kernel) ?_
          refine lv_icmp_ne (tgt := 57) hx₀ hb dX12_comesNow_47 (by decide) (fun c_12 => ?_) (fun c_12 => ?_)
          · refine lv_iload_n hx₀ hb dX12_comesNow_57 rfl (lv_at hl 0 rfl) ?_
            refine lv_if_eq (tgt := 73) hx₀ hb dX12_comesNow_58 (by decide) (fun c9 => absurd c9 (by decide +kernel)) (fun _ => ?_)
            refine lv_aload_n hx₀ hb dX12_comesNow_61 rfl (lv_at hl 1 rfl) ?_
            refine va_get (D := (dC, dI)) (ci := 11) (v := .ref vMi) (C := RX12) (T := TX12) (N := 30) hx₀ hb hts inlX12 hown hK hP 0 rfl rfl 8 (by decide) (hts (.fieldLink RX12 28 "BittenStickModel" "mile" "[I") wd_121) (fun _ h9 => h9) rfl dX12_comesNow_62 ?_
            refine lv_aload_n hx₀ hb dX12_comesNow_65 rfl (lv_at hl 1 rfl) ?_
            refine va_get (D := (dC, dI)) (ci := 11) (v := .int fe) (C := RX12) (T := TX12) (N := 30) hx₀ hb hts inlX12 hown hK hP 0 rfl rfl 18 (by decide) (hts (.fieldLink RX12 193 "BittenStickModel" "fell" "I") wd_542) (fun _ h9 => h9) rfl dX12_comesNow_66 ?_
            refine va_iald hx₀ hb hK hP 1 0 rfl rfl (vp_in_iff.mpr (lf_g_comesNow_1 fe en kn hh0 hh1 hh2 c_1 c_4)) dX12_comesNow_69 ?_
            refine k_topi (v := y_7) ey_7.symm ?_
            refine lv_goto (tgt := 74) hx₀ hb dX12_comesNow_70 (by decide) ?_
            obtain ⟨hP9, hD9⟩ := k_c2 (wc := [(kX12 hm vFo vSi vIt vMo la vBy vTy mi vMi pn vPs gn vGs fn vFt le vTo kn fe en ca an co vPr vSt vFn sn vSg vAl dr), (kAI vMi cI 24 qMi)]) hP hD [0, 1] (by decide +kernel) rfl
            exact W.iret (v := y_7) hx₀ hb hr (fun t₀ ht hW => ⟨⟨y_7, (), rfl, trivial, by rw [ht]; exact hP9, va_K.moved hW.alike hK, hD9⟩, hS.F ht⟩) hS.2.2 dX12_comesNow_74
          · refine lv_aload_n hx₀ hb dX12_comesNow_50 rfl (lv_at hl 1 rfl) ?_
            refine va_get (D := (dC, dI)) (ci := 11) (v := .int en) (C := RX12) (T := TX12) (N := 30) hx₀ hb hts inlX12 hown hK hP 0 rfl rfl 19 (by decide) (hts (.fieldLink RX12 196 "BittenStickModel" "end" "I") wd_543) (fun _ h9 => h9) rfl dX12_comesNow_51 ?_
            refine lv_goto (tgt := 74) hx₀ hb dX12_comesNow_54 (by decide) ?_
            obtain ⟨hP9, hD9⟩ := k_c2 (wc := [(kX12 hm vFo vSi vIt vMo la vBy vTy mi vMi pn vPs gn vGs fn vFt le vTo kn fe en ca an co vPr vSt vFn sn vSg vAl dr), (kAI vMi cI 24 qMi)]) hP hD [0, 1] (by decide +kernel) rfl
            exact W.iret (v := en) hx₀ hb hr (fun t₀ ht hW => ⟨⟨en, (), rfl, trivial, by rw [ht]; exact hP9, va_K.moved hW.alike hK, hD9⟩, hS.F ht⟩) hS.2.2 dX12_comesNow_74
        · refine lv_aload_n hx₀ hb dX12_comesNow_38 rfl (lv_at hl 1 rfl) ?_
          refine va_get (D := (dC, dI)) (ci := 11) (v := .int fe) (C := RX12) (T := TX12) (N := 30) hx₀ hb hts inlX12 hown hK hP 0 rfl rfl 18 (by decide) (hts (.fieldLink RX12 193 "BittenStickModel" "fell" "I") wd_542) (fun _ h9 => h9) rfl dX12_comesNow_39 ?_
          refine lv_goto (tgt := 74) hx₀ hb dX12_comesNow_42 (by decide) ?_
          obtain ⟨hP9, hD9⟩ := k_c2 (wc := [(kX12 hm vFo vSi vIt vMo la vBy vTy mi vMi pn vPs gn vGs fn vFt le vTo kn fe en ca an co vPr vSt vFn sn vSg vAl dr), (kAI vMi cI 24 qMi)]) hP hD [0, 1] (by decide +kernel) rfl
          exact W.iret (v := fe) hx₀ hb hr (fun t₀ ht hW => ⟨⟨fe, (), rfl, trivial, by rw [ht]; exact hP9, va_K.moved hW.alike hK, hD9⟩, hS.F ht⟩) hS.2.2 dX12_comesNow_74
set_option maxHeartbeats 4000000 in
set_option maxRecDepth 100000 in
theorem g_comesOf (l : Launch) (dC : Nat → ClassId) (dI : Nat → Nat → Nat) (cI cJ cQ : ClassId) (sz : Nat) (hm : Nat) (f1 : Int32) (w1 : Int32) (vFo : Nat) (vSi : Nat) (vIt : Nat) (vMo : Nat) (la : Int32) (vBy : Nat) (vTy : Nat) (mi : Int32) (vMi : Nat) (pn : Int32) (vPs : Nat) (gn : Int32) (vGs : Nat) (fn : Int32) (vFt : Nat) (le : Int32) (vTo : Nat) (kn : Int32) (fe : Int32) (en : Int32) (ca : Int32) (an : Int32) (co : Int32) (vPr : Nat) (vSt : Nat) (vFn : Nat) (sn : Int32) (vSg : Nat) (vAl : Nat) (dr : Int32) (qMi : Nat → Int32) (qPs : Nat → Int32) (qGs : Nat → Int32) (qTo : Nat → Int32) (qPr : Nat → Int32) (qSt : Nat → Int32) (qFn : Nat → Int32) (qFt : Nat → Int32) (hh0 : 0 ≤ mi ∧ mi ≤ 24) (hh1 : 0 ≤ pn ∧ pn ≤ 8) (hh2 : 0 ≤ gn ∧ gn ≤ 8) (hh3 : k_bd 2 0 7 qPr) (hh4 : 0 ≤ f1 ∧ f1 ≤ 7) : Met l yX12_comesOf (kW yX12_comesOf cX12_comesOf 3 (some .int)) { frames := 4, cells := 0, slots := 0, locals := 99 } (kPre dC dI cI cJ cQ sz [.ref hm, .int f1, .int w1] [(kX12 hm vFo vSi vIt vMo la vBy vTy mi vMi pn vPs gn vGs fn vFt le vTo kn fe en ca an co vPr vSt vFn sn vSg vAl dr), (kAI vMi cI 24 qMi), (kAI vPs cI 32 qPs), (kAI vGs cI 16 qGs), (kAI vTo cI 96 qTo), (kAI vPr cI 2 qPr), (kAI vSt cI 2 qSt), (kAI vFn cI 2 qFn), (kAI vFt cI 32 qFt)]) (va_Qi (fun (r : Int32) (u : kS) => (k_bd 2 0 7 (u.2.1 1)) ∧ (0 ≤ (u.1 1) ∧ (u.1 1) ≤ 24) ∧ ((u.1 2) = 0 ∨ (u.1 0) = 0 ∨ (u.1 1) ≤ 23) ∧ (0 ≤ (u.1 0) ∧ (u.1 0) ≤ 24)) (fun (u : kS) t₀ => kB dC dI cI cJ cQ (va_A [(kX12 hm vFo vSi vIt vMo la vBy vTy mi vMi pn vPs gn vGs fn vFt le vTo kn fe en ca an co vPr vSt vFn sn vSg vAl dr), (kAI vMi cI 24 qMi), (kAI vPs cI 32 qPs), (kAI vGs cI 16 qGs), (kAI vTo cI 96 qTo), (kAI vPr cI 2 qPr), (kAI vSt cI 2 qSt), (kAI vFn cI 2 qFn), (kAI vFt cI 32 qFt)] sz) [(kX12 hm vFo vSi vIt vMo la vBy vTy mi vMi pn vPs gn vGs fn vFt le vTo (u.1 0) (u.1 1) (u.1 2) ca (u.1 3) (u.1 4) vPr vSt vFn sn vSg vAl dr), (kAI vMi cI 24 qMi), (kAI vPs cI 32 qPs), (kAI vGs cI 16 qGs), (kAI vTo cI 96 (u.2.1 0)), (kAI vPr cI 2 (u.2.1 1)), (kAI vSt cI 2 (u.2.1 2)), (kAI vFn cI 2 (u.2.1 3)), (kAI vFt cI 32 qFt)] t₀) (va_A [(kX12 hm vFo vSi vIt vMo la vBy vTy mi vMi pn vPs gn vGs fn vFt le vTo kn fe en ca an co vPr vSt vFn sn vSg vAl dr), (kAI vMi cI 24 qMi), (kAI vPs cI 32 qPs), (kAI vGs cI 16 qGs), (kAI vTo cI 96 qTo), (kAI vPr cI 2 qPr), (kAI vSt cI 2 qSt), (kAI vFn cI 2 qFn), (kAI vFt cI 32 qFt)] sz)) 0 0 (va_A [(kX12 hm vFo vSi vIt vMo la vBy vTy mi vMi pn vPs gn vGs fn vFt le vTo kn fe en ca an co vPr vSt vFn sn vSg vAl dr), (kAI vMi cI 24 qMi), (kAI vPs cI 32 qPs), (kAI vGs cI 16 qGs), (kAI vTo cI 96 qTo), (kAI vPr cI 2 qPr), (kAI vSt cI 2 qSt), (kAI vFn cI 2 qFn), (kAI vFt cI 32 qFt)] sz) := by
  refine Met.ofW (cc := cX12_comesOf) (maxL := 3) (ret := (some .int)) (by decide) rfl ?_
  intro p₀ e₀ s₀ m₀ args below meth c₀ s₁ B hml hv₀
  obtain ⟨rfl, hsz, hP, hK, hD0, hN⟩ := hv₀
  have hx₀ := B.exec
  have hb := B.bytes
  have hr := B.returns
  have hts := atoms_spec (ws := (kW yX12_comesOf cX12_comesOf 3 (some .int))) B.pre
  have hts := fun w h => hts w (List.mem_cons_of_mem _ h)
  have hown : s₀.vm.findClass RX12 = some m₀.cls := findClass_of_methodNamed B.named
  have hlocks := B.notSynchronized
  subst hsz
  have hD := hD0.self (sz := s₀.heap.size)
  generalize hAe : va_A [(kX12 hm vFo vSi vIt vMo la vBy vTy mi vMi pn vPs gn vGs fn vFt le vTo kn fe en ca an co vPr vSt vFn sn vSg vAl dr), (kAI vMi cI 24 qMi), (kAI vPs cI 32 qPs), (kAI vGs cI 16 qGs), (kAI vTo cI 96 qTo), (kAI vPr cI 2 qPr), (kAI vSt cI 2 qSt), (kAI vFn cI 2 qFn), (kAI vFt cI 32 qFt)] s₀.heap.size = A at hD ⊢
  have hA : ∀ q : Nat, s₀.heap.size ≤ q → A q := fun q h => by rw [← hAe]; exact Or.inr h
  have hS : va_S A s₀.heap s₀.heap [] := va_S.rf
  have hP : va_P (dC, dI) vwCl [(kX12 hm vFo vSi vIt vMo la vBy vTy mi vMi pn vPs gn vGs fn vFt le vTo kn fe en ca an co vPr vSt vFn sn vSg vAl dr), (kAI vMi cI 24 qMi), (kAI vPs cI 32 qPs), (kAI vGs cI 16 qGs), (kAI vTo cI 96 qTo), (kAI vPr cI 2 qPr), (kAI vSt cI 2 qSt), (kAI vFn cI 2 qFn), (kAI vFt cI 32 qFt)] s₀.heap := hP
  have hl := lv_entry ([.ref hm, .int f1, .int w1]) (n := 3) (Nat.le_of_ble_eq_true rfl)
  rw [lg_entry_eq]
  generalize (lg_sl ([.ref hm, .int f1, .int w1]) ++ List.replicate (3 - (lg_sl ([.ref hm, .int f1, .int w1])).length) Slot.unset).toArray = ls at hl ⊢
  have hl : lv_has ls 3 [(0, .ref hm), (1, .int f1), (2, .int w1)] := hl
  obtain ⟨H, hH⟩ : ∃ z : Heap, z = s₀.heap := ⟨_, rfl⟩
  rw [← hH] at hP
  have hS : va_S A s₀.heap H [] := by rw [hH]; exact hS
  refine k_heap hH ?_
  have hD : va_D A [(kX12 hm vFo vSi vIt vMo la vBy vTy mi vMi pn vPs gn vGs fn vFt le vTo kn fe en ca an co vPr vSt vFn sn vSg vAl dr), (kAI vMi cI 24 qMi), (kAI vPs cI 32 qPs), (kAI vGs cI 16 qGs), (kAI vTo cI 96 qTo), (kAI vPr cI 2 qPr), (kAI vSt cI 2 qSt), (kAI vFn cI 2 qFn), (kAI vFt cI 32 qFt)] := hD
  obtain ⟨locs, hlo⟩ : ∃ z : List Loc, z = [] := ⟨_, rfl⟩
  rw [← hlo] at hS ⊢
  clear hlo hH hAe hD0
  refine lv_aload_n hx₀ hb dX12_comesOf_0 rfl (lv_at hl 0 rfl) ?_
  refine lv_iload_n hx₀ hb dX12_comesOf_1 rfl (lv_at hl 1 rfl) ?_
  obtain ⟨hPc, hDc, hFc, hC⟩ := k_cw (wc := [(kX12 hm vFo vSi vIt vMo la vBy vTy mi vMi pn vPs gn vGs fn vFt le vTo kn fe en ca an co vPr vSt vFn sn vSg vAl dr), (kAI vMi cI 24 qMi), (kAI vPs cI 32 qPs), (kAI vGs cI 16 qGs), (kAI vTo cI 96 qTo), (kAI vPr cI 2 qPr), (kAI vSt cI 2 qSt), (kAI vFn cI 2 qFn), (kAI vFt cI 32 qFt)]) hP hD hS hA [0, 1, 2, 3, 4, 5, 6, 7, 8] (by decide +kernel) rfl
  refine va_callv (va_runV (As := [.int f1]) (rest := []) ⟨hx₀, hb, hml, hown, hts⟩ (g_fliesTold l dC dI cI cJ cQ H.size hm f1 vFo vSi vIt vMo la vBy vTy mi vMi pn vPs gn vGs fn vFt le vTo kn fe en ca an co vPr vSt vFn sn vSg vAl dr qMi qPs qGs qTo qPr qSt qFn qFt (hh0) (hh1) (hh2) (hh3) (hh4)) (cwV 1 hts (kGV wd_536 wd_533 wd_534 wd_535 wd_5) rfl rfl rfl (by decide +kernel) ⟨Nat.le_of_ble_eq_true rfl, Nat.le_of_ble_eq_true rfl⟩) (k_preV11 (q0 := 0) hK hPc hDc hN rfl) rfl rfl hl.1 rfl (lv_room (Nat.le_of_ble_eq_true rfl)) dX12_comesOf_2 ⟨by decide +kernel, by decide +kernel⟩) hS (fun q _ h => hFc q h) hFc (fun u₀ t₀ H1 locs ht hvm hw hB hz1 hk1 hS => ?_)
  obtain ⟨g_2, ga_3, gl_4, gb_5, gp_6⟩ := u₀
  obtain ⟨hP1, hK1, hD1⟩ := hB
  rw [ht] at hP1
  have hJ := k_jn (wr := []) (wt := [(kX12 hm vFo vSi vIt vMo la vBy vTy mi vMi pn vPs gn vGs fn vFt le vTo (g_2 0) (g_2 1) (g_2 2) ca (g_2 3) (g_2 4) vPr vSt vFn sn vSg vAl dr), (kAI vMi cI 24 qMi), (kAI vPs cI 32 qPs), (kAI vGs cI 16 qGs), (kAI vTo cI 96 (ga_3 0)), (kAI vPr cI 2 (ga_3 1)), (kAI vSt cI 2 (ga_3 2)), (kAI vFn cI 2 (ga_3 3)), (kAI vFt cI 32 qFt)]) hP hD hC [] rfl (by decide +kernel) (by decide +kernel) hk1 hFc hP1 hD1 rfl
  clear hP hD hPc hDc hFc hC hP1 hD1 hK1 hz1 hk1 hvm ht
  obtain ⟨hP, hD⟩ := hJ
  generalize H1 = H at hP hS ⊢
  try dsimp only at hw
  obtain ⟨c_7, c_8, c_9, c_10⟩ := hw
  refine lv_aload_n hx₀ hb dX12_comesOf_5 rfl (lv_at hl 0 rfl) ?_
  refine lv_iload_n hx₀ hb dX12_comesOf_6 rfl (lv_at hl 2 rfl) ?_
  obtain ⟨hPc, hDc, hFc, hC⟩ := k_cw (wc := [(kX12 hm vFo vSi vIt vMo la vBy vTy mi vMi pn vPs gn vGs fn vFt le vTo (g_2 0) (g_2 1) (g_2 2) ca (g_2 3) (g_2 4) vPr vSt vFn sn vSg vAl dr), (kAI vMi cI 24 qMi)]) hP hD hS hA [0, 1] (by decide +kernel) rfl
  refine va_calli (va_runV (As := [.int w1]) (rest := []) ⟨hx₀, hb, hml, hown, hts⟩ (g_comesNow l dC dI cI cJ cQ H.size hm w1 vFo vSi vIt vMo la vBy vTy mi vMi pn vPs gn vGs fn vFt le vTo (g_2 0) (g_2 1) (g_2 2) ca (g_2 3) (g_2 4) vPr vSt vFn sn vSg vAl dr qMi (c_8) (c_9) (c_10)) (cwV 1 hts (kGV wd_568 wd_565 wd_566 wd_567 wd_5) rfl rfl rfl (by decide +kernel) ⟨Nat.le_of_ble_eq_true rfl, Nat.le_of_ble_eq_true rfl⟩) (k_preV11 (q0 := 0) hK hPc hDc hN rfl) rfl rfl hl.1 rfl (lv_room (Nat.le_of_ble_eq_true rfl)) dX12_comesOf_7 ⟨by decide +kernel, by decide +kernel⟩) hS (fun q _ h => hFc q h) hFc (fun r_11 u₀ t₀ H1 locs ht hvm hw hB hz1 hk1 hS => ?_)
  obtain ⟨hP1, hK1, hD1⟩ := hB
  rw [ht] at hP1
  have hJ := k_jn (wr := [(kAI vPs cI 32 qPs), (kAI vGs cI 16 qGs), (kAI vTo cI 96 (ga_3 0)), (kAI vPr cI 2 (ga_3 1)), (kAI vSt cI 2 (ga_3 2)), (kAI vFn cI 2 (ga_3 3)), (kAI vFt cI 32 qFt)]) (wt := [(kAI vPs cI 32 qPs), (kAI vGs cI 16 qGs), (kAI vTo cI 96 (ga_3 0)), (kAI vPr cI 2 (ga_3 1)), (kAI vSt cI 2 (ga_3 2)), (kAI vFn cI 2 (ga_3 3)), (kAI vFt cI 32 qFt), (kX12 hm vFo vSi vIt vMo la vBy vTy mi vMi pn vPs gn vGs fn vFt le vTo (g_2 0) (g_2 1) (g_2 2) ca (g_2 3) (g_2 4) vPr vSt vFn sn vSg vAl dr), (kAI vMi cI 24 qMi)]) hP hD hC [2, 3, 4, 5, 6, 7, 8] rfl (by decide +kernel) (by decide +kernel) hk1 hFc hP1 hD1 rfl
  clear hP hD hPc hDc hFc hC hP1 hD1 hK1 hz1 hk1 hvm ht
  obtain ⟨hP, hD⟩ := hJ
  generalize H1 = H at hP hS ⊢
  try dsimp only at hw
  obtain ⟨hP9, hD9⟩ := k_c2 (wc := [(kX12 hm vFo vSi vIt vMo la vBy vTy mi vMi pn vPs gn vGs fn vFt le vTo (g_2 0) (g_2 1) (g_2 2) ca (g_2 3) (g_2 4) vPr vSt vFn sn vSg vAl dr), (kAI vMi cI 24 qMi), (kAI vPs cI 32 qPs), (kAI vGs cI 16 qGs), (kAI vTo cI 96 (ga_3 0)), (kAI vPr cI 2 (ga_3 1)), (kAI vSt cI 2 (ga_3 2)), (kAI vFn cI 2 (ga_3 3)), (kAI vFt cI 32 qFt)]) hP hD [7, 8, 0, 1, 2, 3, 4, 5, 6] (by decide +kernel) rfl
  exact W.iret (v := r_11) hx₀ hb hr (fun t₀ ht hW => ⟨⟨r_11, (k_fn [(g_2 0), (g_2 1), (g_2 2), (g_2 3), (g_2 4)], k_fa [ga_3 0, ga_3 1, ga_3 2, ga_3 3], k_fl [], k_fL [], k_fp []), rfl, ⟨c_7, c_8, c_9, c_10⟩, by rw [ht]; exact hP9, va_K.moved hW.alike hK, hD9⟩, hS.F ht⟩) hS.2.2 dX12_comesOf_10
theorem lf_g_behindOf_1 (a0 : Int32) (a1 : Int32) (a2 : Int32) (a3 : Int32) (a4 : Int32) (h0 : 0 ≤ a0) (h1 : 0 ≤ a1 ∧ a1 ≤ 3) (h2 : 0 ≤ (a2) ∧ (a2) ≤ 24) (h3 : (a3) = 0 ∨ (a4) = 0 ∨ (a2) ≤ 23) (h4 : 0 ≤ (a4) ∧ (a4) ≤ 24) (h5 : ¬ (a4) ≤ a0) : 0 ≤ ((4 * a0) + a1).toInt ∧ ((4 * a0) + a1).toInt < 96 := by
  first | rfl | assumption | decide | exact Or.inl rfl | (first | omega | (have hr0 := Int32.toInt_lt a0; have hs0 := Int32.le_toInt a0; have hr1 := Int32.toInt_lt a1; have hs1 := Int32.le_toInt a1; have hr2 := Int32.toInt_lt a2; have hs2 := Int32.le_toInt a2; have hr3 := Int32.toInt_lt a3; have hs3 := Int32.le_toInt a3; have hr4 := Int32.toInt_lt a4; have hs4 := Int32.le_toInt a4; simp only [Int64.toInt_add, Int64.toInt_sub, Int32.toInt_add, Int32.toInt_sub, Int32.toInt_mul, Int64.le_iff_toInt_le, Int64.lt_iff_toInt_lt, Int32.le_iff_toInt_le, Int32.lt_iff_toInt_lt, ← Int32.toInt_inj, ← Int64.toInt_inj, Int32.toInt_toInt64, kc_0, kc_3, kc_4, kc_23, kc_24, kc_96] at *; (first | omega | ((try simp (disch := omega) only [k_bm64] at *); (try simp (disch := omega) only [k_bm] at *); (try simp (disch := omega) only [k_bm] at *); omega) | (simp only [Int.bmod] at *; omega))))
set_option maxHeartbeats 4000000 in
set_option maxRecDepth 100000 in
theorem g_behindOf (l : Launch) (dC : Nat → ClassId) (dI : Nat → Nat → Nat) (cI cJ cQ : ClassId) (sz : Nat) (hm : Nat) (f1 : Int32) (m1 : Int32) (w1 : Int32) (vFo : Nat) (vSi : Nat) (vIt : Nat) (vMo : Nat) (la : Int32) (vBy : Nat) (vTy : Nat) (mi : Int32) (vMi : Nat) (pn : Int32) (vPs : Nat) (gn : Int32) (vGs : Nat) (fn : Int32) (vFt : Nat) (le : Int32) (vTo : Nat) (kn : Int32) (fe : Int32) (en : Int32) (ca : Int32) (an : Int32) (co : Int32) (vPr : Nat) (vSt : Nat) (vFn : Nat) (sn : Int32) (vSg : Nat) (vAl : Nat) (dr : Int32) (qMi : Nat → Int32) (qPs : Nat → Int32) (qGs : Nat → Int32) (qTo : Nat → Int32) (qPr : Nat → Int32) (qSt : Nat → Int32) (qFn : Nat → Int32) (qFt : Nat → Int32) (hh0 : 0 ≤ mi ∧ mi ≤ 24) (hh1 : 0 ≤ pn ∧ pn ≤ 8) (hh2 : 0 ≤ gn ∧ gn ≤ 8) (hh3 : k_bd 2 0 7 qPr) (hh4 : 0 ≤ f1 ∧ f1 ≤ 7) (hh5 : 0 ≤ m1) (hh6 : 0 ≤ w1 ∧ w1 ≤ 3) : Met l yX12_behindOf (kW yX12_behindOf cX12_behindOf 4 (some .int)) { frames := 4, cells := 0, slots := 0, locals := 99 } (kPre dC dI cI cJ cQ sz [.ref hm, .int f1, .int m1, .int w1] [(kX12 hm vFo vSi vIt vMo la vBy vTy mi vMi pn vPs gn vGs fn vFt le vTo kn fe en ca an co vPr vSt vFn sn vSg vAl dr), (kAI vMi cI 24 qMi), (kAI vPs cI 32 qPs), (kAI vGs cI 16 qGs), (kAI vTo cI 96 qTo), (kAI vPr cI 2 qPr), (kAI vSt cI 2 qSt), (kAI vFn cI 2 qFn), (kAI vFt cI 32 qFt)]) (va_Qi (fun (r : Int32) (u : kS) => (k_bd 2 0 7 (u.2.1 1)) ∧ (0 ≤ (u.1 1) ∧ (u.1 1) ≤ 24) ∧ ((u.1 2) = 0 ∨ (u.1 0) = 0 ∨ (u.1 1) ≤ 23) ∧ (0 ≤ (u.1 0) ∧ (u.1 0) ≤ 24)) (fun (u : kS) t₀ => kB dC dI cI cJ cQ (va_A [(kX12 hm vFo vSi vIt vMo la vBy vTy mi vMi pn vPs gn vGs fn vFt le vTo kn fe en ca an co vPr vSt vFn sn vSg vAl dr), (kAI vMi cI 24 qMi), (kAI vPs cI 32 qPs), (kAI vGs cI 16 qGs), (kAI vTo cI 96 qTo), (kAI vPr cI 2 qPr), (kAI vSt cI 2 qSt), (kAI vFn cI 2 qFn), (kAI vFt cI 32 qFt)] sz) [(kX12 hm vFo vSi vIt vMo la vBy vTy mi vMi pn vPs gn vGs fn vFt le vTo (u.1 0) (u.1 1) (u.1 2) ca (u.1 3) (u.1 4) vPr vSt vFn sn vSg vAl dr), (kAI vMi cI 24 qMi), (kAI vPs cI 32 qPs), (kAI vGs cI 16 qGs), (kAI vTo cI 96 (u.2.1 0)), (kAI vPr cI 2 (u.2.1 1)), (kAI vSt cI 2 (u.2.1 2)), (kAI vFn cI 2 (u.2.1 3)), (kAI vFt cI 32 qFt)] t₀) (va_A [(kX12 hm vFo vSi vIt vMo la vBy vTy mi vMi pn vPs gn vGs fn vFt le vTo kn fe en ca an co vPr vSt vFn sn vSg vAl dr), (kAI vMi cI 24 qMi), (kAI vPs cI 32 qPs), (kAI vGs cI 16 qGs), (kAI vTo cI 96 qTo), (kAI vPr cI 2 qPr), (kAI vSt cI 2 qSt), (kAI vFn cI 2 qFn), (kAI vFt cI 32 qFt)] sz)) 0 0 (va_A [(kX12 hm vFo vSi vIt vMo la vBy vTy mi vMi pn vPs gn vGs fn vFt le vTo kn fe en ca an co vPr vSt vFn sn vSg vAl dr), (kAI vMi cI 24 qMi), (kAI vPs cI 32 qPs), (kAI vGs cI 16 qGs), (kAI vTo cI 96 qTo), (kAI vPr cI 2 qPr), (kAI vSt cI 2 qSt), (kAI vFn cI 2 qFn), (kAI vFt cI 32 qFt)] sz) := by
  refine Met.ofW (cc := cX12_behindOf) (maxL := 4) (ret := (some .int)) (by decide) rfl ?_
  intro p₀ e₀ s₀ m₀ args below meth c₀ s₁ B hml hv₀
  obtain ⟨rfl, hsz, hP, hK, hD0, hN⟩ := hv₀
  have hx₀ := B.exec
  have hb := B.bytes
  have hr := B.returns
  have hts := atoms_spec (ws := (kW yX12_behindOf cX12_behindOf 4 (some .int))) B.pre
  have hts := fun w h => hts w (List.mem_cons_of_mem _ h)
  have hown : s₀.vm.findClass RX12 = some m₀.cls := findClass_of_methodNamed B.named
  have hlocks := B.notSynchronized
  subst hsz
  have hD := hD0.self (sz := s₀.heap.size)
  generalize hAe : va_A [(kX12 hm vFo vSi vIt vMo la vBy vTy mi vMi pn vPs gn vGs fn vFt le vTo kn fe en ca an co vPr vSt vFn sn vSg vAl dr), (kAI vMi cI 24 qMi), (kAI vPs cI 32 qPs), (kAI vGs cI 16 qGs), (kAI vTo cI 96 qTo), (kAI vPr cI 2 qPr), (kAI vSt cI 2 qSt), (kAI vFn cI 2 qFn), (kAI vFt cI 32 qFt)] s₀.heap.size = A at hD ⊢
  have hA : ∀ q : Nat, s₀.heap.size ≤ q → A q := fun q h => by rw [← hAe]; exact Or.inr h
  have hS : va_S A s₀.heap s₀.heap [] := va_S.rf
  have hP : va_P (dC, dI) vwCl [(kX12 hm vFo vSi vIt vMo la vBy vTy mi vMi pn vPs gn vGs fn vFt le vTo kn fe en ca an co vPr vSt vFn sn vSg vAl dr), (kAI vMi cI 24 qMi), (kAI vPs cI 32 qPs), (kAI vGs cI 16 qGs), (kAI vTo cI 96 qTo), (kAI vPr cI 2 qPr), (kAI vSt cI 2 qSt), (kAI vFn cI 2 qFn), (kAI vFt cI 32 qFt)] s₀.heap := hP
  have hl := lv_entry ([.ref hm, .int f1, .int m1, .int w1]) (n := 4) (Nat.le_of_ble_eq_true rfl)
  rw [lg_entry_eq]
  generalize (lg_sl ([.ref hm, .int f1, .int m1, .int w1]) ++ List.replicate (4 - (lg_sl ([.ref hm, .int f1, .int m1, .int w1])).length) Slot.unset).toArray = ls at hl ⊢
  have hl : lv_has ls 4 [(0, .ref hm), (1, .int f1), (2, .int m1), (3, .int w1)] := hl
  obtain ⟨H, hH⟩ : ∃ z : Heap, z = s₀.heap := ⟨_, rfl⟩
  rw [← hH] at hP
  have hS : va_S A s₀.heap H [] := by rw [hH]; exact hS
  refine k_heap hH ?_
  have hD : va_D A [(kX12 hm vFo vSi vIt vMo la vBy vTy mi vMi pn vPs gn vGs fn vFt le vTo kn fe en ca an co vPr vSt vFn sn vSg vAl dr), (kAI vMi cI 24 qMi), (kAI vPs cI 32 qPs), (kAI vGs cI 16 qGs), (kAI vTo cI 96 qTo), (kAI vPr cI 2 qPr), (kAI vSt cI 2 qSt), (kAI vFn cI 2 qFn), (kAI vFt cI 32 qFt)] := hD
  obtain ⟨locs, hlo⟩ : ∃ z : List Loc, z = [] := ⟨_, rfl⟩
  rw [← hlo] at hS ⊢
  clear hlo hH hAe hD0
  refine lv_aload_n hx₀ hb dX12_behindOf_0 rfl (lv_at hl 0 rfl) ?_
  refine lv_iload_n hx₀ hb dX12_behindOf_1 rfl (lv_at hl 1 rfl) ?_
  obtain ⟨hPc, hDc, hFc, hC⟩ := k_cw (wc := [(kX12 hm vFo vSi vIt vMo la vBy vTy mi vMi pn vPs gn vGs fn vFt le vTo kn fe en ca an co vPr vSt vFn sn vSg vAl dr), (kAI vMi cI 24 qMi), (kAI vPs cI 32 qPs), (kAI vGs cI 16 qGs), (kAI vTo cI 96 qTo), (kAI vPr cI 2 qPr), (kAI vSt cI 2 qSt), (kAI vFn cI 2 qFn), (kAI vFt cI 32 qFt)]) hP hD hS hA [0, 1, 2, 3, 4, 5, 6, 7, 8] (by decide +kernel) rfl
  refine va_callv (va_runV (As := [.int f1]) (rest := []) ⟨hx₀, hb, hml, hown, hts⟩ (g_fliesTold l dC dI cI cJ cQ H.size hm f1 vFo vSi vIt vMo la vBy vTy mi vMi pn vPs gn vGs fn vFt le vTo kn fe en ca an co vPr vSt vFn sn vSg vAl dr qMi qPs qGs qTo qPr qSt qFn qFt (hh0) (hh1) (hh2) (hh3) (hh4)) (cwV 1 hts (kGV wd_536 wd_533 wd_534 wd_535 wd_5) rfl rfl rfl (by decide +kernel) ⟨Nat.le_of_ble_eq_true rfl, Nat.le_of_ble_eq_true rfl⟩) (k_preV11 (q0 := 0) hK hPc hDc hN rfl) rfl rfl hl.1 rfl (lv_room (Nat.le_of_ble_eq_true rfl)) dX12_behindOf_2 ⟨by decide +kernel, by decide +kernel⟩) hS (fun q _ h => hFc q h) hFc (fun u₀ t₀ H1 locs ht hvm hw hB hz1 hk1 hS => ?_)
  obtain ⟨g_2, ga_3, gl_4, gb_5, gp_6⟩ := u₀
  obtain ⟨hP1, hK1, hD1⟩ := hB
  rw [ht] at hP1
  have hJ := k_jn (wr := []) (wt := [(kX12 hm vFo vSi vIt vMo la vBy vTy mi vMi pn vPs gn vGs fn vFt le vTo (g_2 0) (g_2 1) (g_2 2) ca (g_2 3) (g_2 4) vPr vSt vFn sn vSg vAl dr), (kAI vMi cI 24 qMi), (kAI vPs cI 32 qPs), (kAI vGs cI 16 qGs), (kAI vTo cI 96 (ga_3 0)), (kAI vPr cI 2 (ga_3 1)), (kAI vSt cI 2 (ga_3 2)), (kAI vFn cI 2 (ga_3 3)), (kAI vFt cI 32 qFt)]) hP hD hC [] rfl (by decide +kernel) (by decide +kernel) hk1 hFc hP1 hD1 rfl
  clear hP hD hPc hDc hFc hC hP1 hD1 hK1 hz1 hk1 hvm ht
  obtain ⟨hP, hD⟩ := hJ
  generalize H1 = H at hP hS ⊢
  try dsimp only at hw
  obtain ⟨c_7, c_8, c_9, c_10⟩ := hw
  refine lv_iload_n hx₀ hb dX12_behindOf_5 rfl (lv_at hl 2 rfl) ?_
  refine lv_aload_n hx₀ hb dX12_behindOf_6 rfl (lv_at hl 0 rfl) ?_
  refine va_get (D := (dC, dI)) (ci := 11) (v := .int (g_2 0)) (C := RX12) (T := TX12) (N := 30) hx₀ hb hts inlX12 hown hK hP 0 rfl rfl 17 (by decide) (hts (.fieldLink RX12 190 "BittenStickModel" "known" "I") wd_541) (fun _ h9 => h9) rfl dX12_behindOf_7 ?_
  refine lv_icmp_ge (tgt := 26) hx₀ hb dX12_behindOf_10 (by decide) (fun c_11 => ?_) (fun c_11 => ?_)
  · refine lv_iconst (v := (-1)) hx₀ hb dX12_behindOf_26 (by decide +kernel) ?_
    obtain ⟨hP9, hD9⟩ := k_c2 (wc := [(kX12 hm vFo vSi vIt vMo la vBy vTy mi vMi pn vPs gn vGs fn vFt le vTo (g_2 0) (g_2 1) (g_2 2) ca (g_2 3) (g_2 4) vPr vSt vFn sn vSg vAl dr), (kAI vMi cI 24 qMi), (kAI vPs cI 32 qPs), (kAI vGs cI 16 qGs), (kAI vTo cI 96 (ga_3 0)), (kAI vPr cI 2 (ga_3 1)), (kAI vSt cI 2 (ga_3 2)), (kAI vFn cI 2 (ga_3 3)), (kAI vFt cI 32 qFt)]) hP hD [0, 1, 2, 3, 4, 5, 6, 7, 8] (by decide +kernel) rfl
    exact W.iret (v := (-1)) hx₀ hb hr (fun t₀ ht hW => ⟨⟨(-1), (k_fn [(g_2 0), (g_2 1), (g_2 2), (g_2 3), (g_2 4)], k_fa [ga_3 0, ga_3 1, ga_3 2, ga_3 3], k_fl [], k_fL [], k_fp []), rfl, ⟨c_7, c_8, c_9, c_10⟩, by rw [ht]; exact hP9, va_K.moved hW.alike hK, hD9⟩, hS.F ht⟩) hS.2.2 dX12_behindOf_27
  · refine lv_aload_n hx₀ hb dX12_behindOf_13 rfl (lv_at hl 0 rfl) ?_
    refine va_get (D := (dC, dI)) (ci := 11) (v := .ref vTo) (C := RX12) (T := TX12) (N := 30) hx₀ hb hts inlX12 hown hK hP 0 rfl rfl 16 (by decide) (hts (.fieldLink RX12 40 "BittenStickModel" "told" "[I") wd_125) (fun _ h9 => h9) rfl dX12_behindOf_14 ?_
    refine lv_iconst (v := 4) hx₀ hb dX12_behindOf_17 (by decide +kernel) ?_
    refine lv_iload_n hx₀ hb dX12_behindOf_18 rfl (lv_at hl 2 rfl) ?_
    refine lv_imul hx₀ hb dX12_behindOf_19 ?_
    refine lv_iload_n hx₀ hb dX12_behindOf_20 rfl (lv_at hl 3 rfl) ?_
    refine lv_iadd hx₀ hb dX12_behindOf_21 ?_
    refine va_iald hx₀ hb hK hP 4 0 rfl rfl (vp_in_iff.mpr (lf_g_behindOf_1 m1 w1 (g_2 1) (g_2 2) (g_2 0) hh5 hh6 c_8 c_9 c_10 c_11)) dX12_behindOf_22 ?_
    refine lv_topi (fun y_12 ey_12 => ?_)
    refine lv_goto (tgt := 27) hx₀ hb dX12_behindOf_23 (by decide) ?_
    obtain ⟨hP9, hD9⟩ := k_c2 (wc := [(kX12 hm vFo vSi vIt vMo la vBy vTy mi vMi pn vPs gn vGs fn vFt le vTo (g_2 0) (g_2 1) (g_2 2) ca (g_2 3) (g_2 4) vPr vSt vFn sn vSg vAl dr), (kAI vMi cI 24 qMi), (kAI vPs cI 32 qPs), (kAI vGs cI 16 qGs), (kAI vTo cI 96 (ga_3 0)), (kAI vPr cI 2 (ga_3 1)), (kAI vSt cI 2 (ga_3 2)), (kAI vFn cI 2 (ga_3 3)), (kAI vFt cI 32 qFt)]) hP hD [0, 1, 2, 3, 4, 5, 6, 7, 8] (by decide +kernel) rfl
    exact W.iret (v := y_12) hx₀ hb hr (fun t₀ ht hW => ⟨⟨y_12, (k_fn [(g_2 0), (g_2 1), (g_2 2), (g_2 3), (g_2 4)], k_fa [ga_3 0, ga_3 1, ga_3 2, ga_3 3], k_fl [], k_fL [], k_fp []), rfl, ⟨c_7, c_8, c_9, c_10⟩, by rw [ht]; exact hP9, va_K.moved hW.alike hK, hD9⟩, hS.F ht⟩) hS.2.2 dX12_behindOf_27
